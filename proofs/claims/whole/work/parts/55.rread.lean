/-! THE REFERENCE'S READER -/
section RR
variable {X : Nat × (Nat → Int32)} {d : Nat} {I A : TI} {J : TJ} {w : am_W}
theorem r_isIn {v l h : Int32} : am_CL X (d + 1) mX11_isIn [.int v, .int l, .int h] w = some (some (.int (if ¬ v < l ∧ ¬ h < v then 1 else 0)), w) := by
  simp only [eX11_isIn, sX11_isIn_0, sX11_isIn_1, sX11_isIn_2, sX11_isIn_5, sX11_isIn_6, sX11_isIn_7, sX11_isIn_10, sX11_isIn_11, sX11_isIn_14, sX11_isIn_15, am_rt_some, am_rt_void, am_rt_none, am_rt_ite, ↓reduceIte, if_true, if_false, and_self, true_and, and_true, true_or, or_true, Bool.false_eq_true, reduceCtorEq]
  by_cases h1 : v < l <;> by_cases h2 : h < v <;> simp only [h1, h2, not_true_eq_false, not_false_eq_true, and_true, true_and, and_false, false_and, if_true, if_false, and_self]
theorem r_isAt {n p : Nat} {t : Nat → Int32} {c : Int32} (hn : n ≤ 120) (hp : p ≤ n) (h1 : I 81 14 = nI n) (h2 : I 81 15 = nI p) (h3 : I 81 16 = 1) (h4 : ∀ j, j < n → A 88 j = t j) (hc : ¬ -1 = c) : am_CL X (d + 1) mX11_isAt [.ref 81, .int c] (am_wd I A J) = some (some (.int (if lc t n p = c then 1 else 0)), am_wd I A J) := by
  simp only [eX11_isAt, sX11_isAt_0, sX11_isAt_1, sX11_isAt_4, sX11_isAt_7, sX11_isAt_8, sX11_isAt_11, sX11_isAt_12, sX11_isAt_15, sX11_isAt_18, sX11_isAt_19, sX11_isAt_22, sX11_isAt_23, sX11_isAt_26, sX11_isAt_27, sX11_isAt_28, sX11_isAt_31, sX11_isAt_32, sX11_isAt_35, sX11_isAt_36, wo_81, wf_81_0, wv_81_0, wf_81_1, wv_81_1, wp_81_1, wf_81_2, wv_81_2, wp_81_2, wf_81_3, wv_81_3, wf_81_4, wv_81_4, wf_81_5, wv_81_5, wf_81_6, wv_81_6, wp_81_6, wf_81_7, wv_81_7, wp_81_7, wf_81_8, wv_81_8, wf_81_9, wv_81_9, wp_81_9, wf_81_10, wv_81_10, wf_81_11, wv_81_11, wp_81_11, wf_81_12, wv_81_12, wp_81_12, wf_81_13, wv_81_13, wf_81_14, wv_81_14, wp_81_14, wf_81_15, wv_81_15, wp_81_15, wf_81_16, wv_81_16, wp_81_16, wf_81_17, wv_81_17, wp_81_17, wf_81_18, wv_81_18, wf_81_19, wv_81_19, wf_81_20, wv_81_20, wf_81_21, wv_81_21, wf_81_22, wv_81_22, wf_81_23, wv_81_23, wf_81_24, wv_81_24, wf_81_25, wv_81_25, wf_81_26, wv_81_26, wf_81_27, wv_81_27, wf_81_28, wv_81_28, wf_81_29, wv_81_29, wf_81_30, wv_81_30, wf_81_31, wv_81_31, wf_81_32, wv_81_32, wf_81_33, wv_81_33, wp_81_33, wf_81_34, wv_81_34, wf_81_35, wv_81_35, wp_81_35, wf_81_36, wv_81_36, wf_81_37, wv_81_37, wp_81_37, wf_81_38, wv_81_38, wf_81_39, wv_81_39, wf_81_40, wv_81_40, wf_81_41, wv_81_41, wf_81_42, wv_81_42, wp_81_42, wf_81_43, wv_81_43, wp_81_43, wf_81_44, wv_81_44, wp_81_44, wf_81_45, wv_81_45, wf_81_46, wv_81_46, wf_81_47, wv_81_47, wf_81_48, wv_81_48, wp_81_48, wf_81_49, wv_81_49, wf_81_50, wv_81_50, wp_81_50, wi_88, wg_88, ws_88, ww_88, wl_88, wn_88, am_rt_some, am_rt_void, am_rt_none, am_rt_ite, ↓reduceIte, if_true, if_false, and_self, true_and, and_true, true_or, or_true, Bool.false_eq_true, reduceCtorEq, h1, h2, h3, show ((1 : Int32) = 0) = False by decide, am_nlt (show p < 2147483648 by omega) (show n < 2147483648 by omega)]
  by_cases h : p < n
  · simp only [h, if_true, am_nin (show p < 120 by omega) (show (120 : Nat) < 2147483648 by omega), am_ncl (show p < 2147483648 by omega), lc_in h, h4 p h]
    by_cases q : t p = c <;> simp only [q, if_true, if_false]
  · simp only [h, if_false, lc_out h, hc]
theorem r_isAt0 {c : Int32} (h3 : I 81 16 = 0) : am_CL X (d + 1) mX11_isAt [.ref 81, .int c] (am_wd I A J) = some (some (.int 0), am_wd I A J) := by
  simp only [eX11_isAt, sX11_isAt_0, sX11_isAt_1, sX11_isAt_4, sX11_isAt_7, sX11_isAt_8, sX11_isAt_11, sX11_isAt_12, sX11_isAt_15, sX11_isAt_18, sX11_isAt_19, sX11_isAt_22, sX11_isAt_23, sX11_isAt_26, sX11_isAt_27, sX11_isAt_28, sX11_isAt_31, sX11_isAt_32, sX11_isAt_35, sX11_isAt_36, wo_81, wf_81_0, wv_81_0, wf_81_1, wv_81_1, wp_81_1, wf_81_2, wv_81_2, wp_81_2, wf_81_3, wv_81_3, wf_81_4, wv_81_4, wf_81_5, wv_81_5, wf_81_6, wv_81_6, wp_81_6, wf_81_7, wv_81_7, wp_81_7, wf_81_8, wv_81_8, wf_81_9, wv_81_9, wp_81_9, wf_81_10, wv_81_10, wf_81_11, wv_81_11, wp_81_11, wf_81_12, wv_81_12, wp_81_12, wf_81_13, wv_81_13, wf_81_14, wv_81_14, wp_81_14, wf_81_15, wv_81_15, wp_81_15, wf_81_16, wv_81_16, wp_81_16, wf_81_17, wv_81_17, wp_81_17, wf_81_18, wv_81_18, wf_81_19, wv_81_19, wf_81_20, wv_81_20, wf_81_21, wv_81_21, wf_81_22, wv_81_22, wf_81_23, wv_81_23, wf_81_24, wv_81_24, wf_81_25, wv_81_25, wf_81_26, wv_81_26, wf_81_27, wv_81_27, wf_81_28, wv_81_28, wf_81_29, wv_81_29, wf_81_30, wv_81_30, wf_81_31, wv_81_31, wf_81_32, wv_81_32, wf_81_33, wv_81_33, wp_81_33, wf_81_34, wv_81_34, wf_81_35, wv_81_35, wp_81_35, wf_81_36, wv_81_36, wf_81_37, wv_81_37, wp_81_37, wf_81_38, wv_81_38, wf_81_39, wv_81_39, wf_81_40, wv_81_40, wf_81_41, wv_81_41, wf_81_42, wv_81_42, wp_81_42, wf_81_43, wv_81_43, wp_81_43, wf_81_44, wv_81_44, wp_81_44, wf_81_45, wv_81_45, wf_81_46, wv_81_46, wf_81_47, wv_81_47, wf_81_48, wv_81_48, wp_81_48, wf_81_49, wv_81_49, wf_81_50, wv_81_50, wp_81_50, wi_88, wg_88, ws_88, ww_88, wl_88, wn_88, am_rt_some, am_rt_void, am_rt_none, am_rt_ite, ↓reduceIte, if_true, if_false, and_self, true_and, and_true, true_or, or_true, Bool.false_eq_true, reduceCtorEq, h3]
theorem r_isDigit {n p : Nat} {t : Nat → Int32} (hn : n ≤ 120) (hp : p ≤ n) (h1 : I 81 14 = nI n) (h2 : I 81 15 = nI p) (h3 : I 81 16 = 1) (h4 : ∀ j, j < n → A 88 j = t j) : am_CL X (d + 2) mX11_isDigit [.ref 81] (am_wd I A J) = some (some (.int (if ¬ lc t n p < 48 ∧ ¬ 57 < lc t n p then 1 else 0)), am_wd I A J) := by
  simp only [eX11_isDigit, sX11_isDigit_0, sX11_isDigit_1, sX11_isDigit_4, sX11_isDigit_7, sX11_isDigit_8, sX11_isDigit_11, sX11_isDigit_12, sX11_isDigit_15, sX11_isDigit_18, sX11_isDigit_19, sX11_isDigit_22, sX11_isDigit_23, sX11_isDigit_26, sX11_isDigit_27, sX11_isDigit_29, sX11_isDigit_31, sX11_isDigit_34, sX11_isDigit_37, sX11_isDigit_38, sX11_isDigit_41, sX11_isDigit_42, wo_81, wf_81_0, wv_81_0, wf_81_1, wv_81_1, wp_81_1, wf_81_2, wv_81_2, wp_81_2, wf_81_3, wv_81_3, wf_81_4, wv_81_4, wf_81_5, wv_81_5, wf_81_6, wv_81_6, wp_81_6, wf_81_7, wv_81_7, wp_81_7, wf_81_8, wv_81_8, wf_81_9, wv_81_9, wp_81_9, wf_81_10, wv_81_10, wf_81_11, wv_81_11, wp_81_11, wf_81_12, wv_81_12, wp_81_12, wf_81_13, wv_81_13, wf_81_14, wv_81_14, wp_81_14, wf_81_15, wv_81_15, wp_81_15, wf_81_16, wv_81_16, wp_81_16, wf_81_17, wv_81_17, wp_81_17, wf_81_18, wv_81_18, wf_81_19, wv_81_19, wf_81_20, wv_81_20, wf_81_21, wv_81_21, wf_81_22, wv_81_22, wf_81_23, wv_81_23, wf_81_24, wv_81_24, wf_81_25, wv_81_25, wf_81_26, wv_81_26, wf_81_27, wv_81_27, wf_81_28, wv_81_28, wf_81_29, wv_81_29, wf_81_30, wv_81_30, wf_81_31, wv_81_31, wf_81_32, wv_81_32, wf_81_33, wv_81_33, wp_81_33, wf_81_34, wv_81_34, wf_81_35, wv_81_35, wp_81_35, wf_81_36, wv_81_36, wf_81_37, wv_81_37, wp_81_37, wf_81_38, wv_81_38, wf_81_39, wv_81_39, wf_81_40, wv_81_40, wf_81_41, wv_81_41, wf_81_42, wv_81_42, wp_81_42, wf_81_43, wv_81_43, wp_81_43, wf_81_44, wv_81_44, wp_81_44, wf_81_45, wv_81_45, wf_81_46, wv_81_46, wf_81_47, wv_81_47, wf_81_48, wv_81_48, wp_81_48, wf_81_49, wv_81_49, wf_81_50, wv_81_50, wp_81_50, wi_88, wg_88, ws_88, ww_88, wl_88, wn_88, am_rt_some, am_rt_void, am_rt_none, am_rt_ite, ↓reduceIte, if_true, if_false, and_self, true_and, and_true, true_or, or_true, Bool.false_eq_true, reduceCtorEq, h1, h2, h3, show ((1 : Int32) = 0) = False by decide, am_nlt (show p < 2147483648 by omega) (show n < 2147483648 by omega)]
  by_cases h : p < n
  · simp only [h, if_true, am_nin (show p < 120 by omega) (show (120 : Nat) < 2147483648 by omega), am_ncl (show p < 2147483648 by omega), lc_in h, h4 p h, r_isIn, am_bi_eq0, am_rt_some, sX11_isDigit_34, sX11_isDigit_37, sX11_isDigit_38, sX11_isDigit_41, sX11_isDigit_42, am_rt_some, am_rt_void, am_rt_none, am_rt_ite, ↓reduceIte, if_true, if_false, and_self, true_and, and_true, true_or, or_true, Bool.false_eq_true, reduceCtorEq]
    by_cases q : ¬ t p < 48 ∧ ¬ 57 < t p
    · rw [if_neg (fun g => g q), if_pos q]
    · rw [if_pos q, if_neg q]
  · simp only [h, if_false, lc_out h, show ((-1 : Int32) < 48) = True by decide, not_true_eq_false, false_and]
/-- ahead of a reader of the reference; r: how many may still be opened -/
def trPre (n p : Nat) (t nm : Nat → Int32) (r : Nat) (I A : TI) : Prop := I 81 14 = nI n ∧ I 81 15 = nI p ∧ I 81 16 = 1 ∧ I 81 17 = nI (6 - r) ∧ (∀ j, j < n → A 88 j = t j) ∧ (∀ j, j < 6 → A 89 j = nm j) ∧ (∀ j, j < 6 → A 90 j = ([115, 116, 109, 102, 105, 119] : List Int32).getD j 0) ∧ n ≤ 120 ∧ p ≤ n ∧ r ≤ 6
def trPost (n p : Nat) (nm : NM) (r : PR) (I A : TI) (J : TJ) : Int32 → TI → TI → TJ → Prop := fun x I' A' J' => Fr [(81, 15), (81, 16), (81, 17)] [] [] I A J I' A' J' ∧ I' 81 15 = nI r.1 ∧ p ≤ r.1 ∧ r.1 ≤ n ∧ I' 81 17 = I 81 17 ∧ ((I' 81 16 = 0 ∧ r.2 = none) ∨ (I' 81 16 = 1 ∧ ∃ v, r.2 = some v ∧ x = v nm))
def Rrs (D : Nat) (M : am_M) (n : Nat) (t nm : Nat → Int32) (r : Nat) (sub : Nat → PR) : Prop := ∀ (X : Nat × (Nat → Int32)) (d : Nat) (I A : TI) (J : TJ) (p : Nat), D ≤ d → trPre n p t nm r I A → am_T (am_CL X d M [.ref 81] (am_wd I A J)) (oE (trPost n p nm (sub p) I A J))
theorem Rrs.up {D D' n r : Nat} {M : am_M} {t nm : Nat → Int32} {sub : Nat → PR} (h : Rrs D M n t nm r sub) (e : D ≤ D') : Rrs D' M n t nm r sub := fun X d I A J p hd => h X d I A J p (Nat.le_trans e hd)
theorem lc_end {t : Nat → Int32} {n q : Nat} (h : n ≤ q) : lc t n q = -1 := lc_out (by omega)


theorem rr_P {D n r : Nat} {t nm : Nat → Int32} {sub : Nat → PR} (hs : Rrs (D + 1) mX11_one n t nm r sub) : Rrs (D + 2) mX11_product n t nm r (pLv t n sub sgP opP) := by
  intro X d I A J p hd hpre
  obtain ⟨k, rfl⟩ : ∃ k, d = k + 2 := ⟨d - 2, by omega⟩
  have hX := hs X (k + 1) I A J p (by omega) hpre
  obtain ⟨h1, h2, h3, h4, h5, h6, h7, hn, hp, hr⟩ := hpre
  have e10 : ((1 : Int32) = 0) = False := by decide
  -- the test
  have test : ∀ (q : Nat) (v : Int32) (z2 z3 : Value) (I1 A1 : TI) (J1 : TJ), q ≤ n → I1 81 14 = nI n → I1 81 15 = nI q → I1 81 16 = 1 → (∀ j, j < n → A1 88 j = t j) → am_EV X (k + 1) mX11_product 5 [.ref 81, .int v, z2, z3] [] (am_wd I1 A1 J1) = if sgP (lc t n q) = true then am_EV X (k + 1) mX11_product 32 [.ref 81, .int v, z2, z3] [] (am_wd I1 A1 J1) else am_EV X (k + 1) mX11_product 96 [.ref 81, .int v, z2, z3] [] (am_wd I1 A1 J1) := by
    intro q v z2 z3 I1 A1 J1 hq g1 g2 g3 g4
    simp only [sX11_product_5, sX11_product_6, sX11_product_8, sX11_product_11, sX11_product_14, sX11_product_15, sX11_product_17, sX11_product_20, sX11_product_23, sX11_product_24, sX11_product_26, sX11_product_29, wo_81, wf_81_0, wv_81_0, wf_81_1, wv_81_1, wp_81_1, wf_81_2, wv_81_2, wp_81_2, wf_81_3, wv_81_3, wf_81_4, wv_81_4, wf_81_5, wv_81_5, wf_81_6, wv_81_6, wp_81_6, wf_81_7, wv_81_7, wp_81_7, wf_81_8, wv_81_8, wf_81_9, wv_81_9, wp_81_9, wf_81_10, wv_81_10, wf_81_11, wv_81_11, wp_81_11, wf_81_12, wv_81_12, wp_81_12, wf_81_13, wv_81_13, wf_81_14, wv_81_14, wp_81_14, wf_81_15, wv_81_15, wp_81_15, wf_81_16, wv_81_16, wp_81_16, wf_81_17, wv_81_17, wp_81_17, wf_81_18, wv_81_18, wf_81_19, wv_81_19, wf_81_20, wv_81_20, wf_81_21, wv_81_21, wf_81_22, wv_81_22, wf_81_23, wv_81_23, wf_81_24, wv_81_24, wf_81_25, wv_81_25, wf_81_26, wv_81_26, wf_81_27, wv_81_27, wf_81_28, wv_81_28, wf_81_29, wv_81_29, wf_81_30, wv_81_30, wf_81_31, wv_81_31, wf_81_32, wv_81_32, wf_81_33, wv_81_33, wp_81_33, wf_81_34, wv_81_34, wf_81_35, wv_81_35, wp_81_35, wf_81_36, wv_81_36, wf_81_37, wv_81_37, wp_81_37, wf_81_38, wv_81_38, wf_81_39, wv_81_39, wf_81_40, wv_81_40, wf_81_41, wv_81_41, wf_81_42, wv_81_42, wp_81_42, wf_81_43, wv_81_43, wp_81_43, wf_81_44, wv_81_44, wp_81_44, wf_81_45, wv_81_45, wf_81_46, wv_81_46, wf_81_47, wv_81_47, wf_81_48, wv_81_48, wp_81_48, wf_81_49, wv_81_49, wf_81_50, wv_81_50, wp_81_50, am_rt_some, am_rt_void, am_rt_none, am_rt_ite, ↓reduceIte, if_true, if_false, and_self, true_and, and_true, true_or, or_true, Bool.false_eq_true, reduceCtorEq, r_isAt (c := 42) hn hq g1 g2 g3 g4 (by decide), r_isAt (c := 47) hn hq g1 g2 g3 g4 (by decide), r_isAt (c := 37) hn hq g1 g2 g3 g4 (by decide), am_bi_eq0]
    by_cases z0 : lc t n q = 42 <;> by_cases z1 : lc t n q = 47 <;> by_cases z2 : lc t n q = 37 <;> simp only [sgP, z0, z1, z2, decide_true, decide_false, Bool.or_true, Bool.true_or, Bool.or_self, Bool.or_false, Bool.false_or, Bool.false_eq_true, if_true, if_false, ite_self, not_true_eq_false, not_false_eq_true, show ((42 : Int32) = 47) = False by decide, show ((42 : Int32) = 37) = False by decide, show ((47 : Int32) = 42) = False by decide, show ((47 : Int32) = 37) = False by decide, show ((37 : Int32) = 42) = False by decide, show ((37 : Int32) = 47) = False by decide]
  have test0 : ∀ (v : Int32) (z2 z3 : Value) (I1 A1 : TI) (J1 : TJ), I1 81 16 = 0 → am_EV X (k + 1) mX11_product 5 [.ref 81, .int v, z2, z3] [] (am_wd I1 A1 J1) = am_EV X (k + 1) mX11_product 96 [.ref 81, .int v, z2, z3] [] (am_wd I1 A1 J1) := by
    intro v z2 z3 I1 A1 J1 g3
    simp only [sX11_product_5, sX11_product_6, sX11_product_8, sX11_product_11, sX11_product_14, sX11_product_15, sX11_product_17, sX11_product_20, sX11_product_23, sX11_product_24, sX11_product_26, sX11_product_29, wo_81, wf_81_0, wv_81_0, wf_81_1, wv_81_1, wp_81_1, wf_81_2, wv_81_2, wp_81_2, wf_81_3, wv_81_3, wf_81_4, wv_81_4, wf_81_5, wv_81_5, wf_81_6, wv_81_6, wp_81_6, wf_81_7, wv_81_7, wp_81_7, wf_81_8, wv_81_8, wf_81_9, wv_81_9, wp_81_9, wf_81_10, wv_81_10, wf_81_11, wv_81_11, wp_81_11, wf_81_12, wv_81_12, wp_81_12, wf_81_13, wv_81_13, wf_81_14, wv_81_14, wp_81_14, wf_81_15, wv_81_15, wp_81_15, wf_81_16, wv_81_16, wp_81_16, wf_81_17, wv_81_17, wp_81_17, wf_81_18, wv_81_18, wf_81_19, wv_81_19, wf_81_20, wv_81_20, wf_81_21, wv_81_21, wf_81_22, wv_81_22, wf_81_23, wv_81_23, wf_81_24, wv_81_24, wf_81_25, wv_81_25, wf_81_26, wv_81_26, wf_81_27, wv_81_27, wf_81_28, wv_81_28, wf_81_29, wv_81_29, wf_81_30, wv_81_30, wf_81_31, wv_81_31, wf_81_32, wv_81_32, wf_81_33, wv_81_33, wp_81_33, wf_81_34, wv_81_34, wf_81_35, wv_81_35, wp_81_35, wf_81_36, wv_81_36, wf_81_37, wv_81_37, wp_81_37, wf_81_38, wv_81_38, wf_81_39, wv_81_39, wf_81_40, wv_81_40, wf_81_41, wv_81_41, wf_81_42, wv_81_42, wp_81_42, wf_81_43, wv_81_43, wp_81_43, wf_81_44, wv_81_44, wp_81_44, wf_81_45, wv_81_45, wf_81_46, wv_81_46, wf_81_47, wv_81_47, wf_81_48, wv_81_48, wp_81_48, wf_81_49, wv_81_49, wf_81_50, wv_81_50, wp_81_50, am_rt_some, am_rt_void, am_rt_none, am_rt_ite, ↓reduceIte, if_true, if_false, and_self, true_and, and_true, true_or, or_true, Bool.false_eq_true, reduceCtorEq, r_isAt0 g3]
  have aft : ∀ (c v r2 : Int32) (zz : Value) (w : am_W), sgP c = true → am_EV X (k + 1) mX11_product 56 [.ref 81, .int v, .int c, zz] [.int r2] w = am_EV X (k + 1) mX11_product 5 [.ref 81, .int (opP c v r2), .int c, .int r2] [] w := by
    intro c v r2 zz w hc
    simp only [sX11_product_56, sX11_product_57, sX11_product_58, sX11_product_60, sX11_product_63, sX11_product_64, sX11_product_65, sX11_product_66, sX11_product_69, sX11_product_70, sX11_product_73, sX11_product_74, sX11_product_77, sX11_product_78, sX11_product_80, sX11_product_83, sX11_product_84, sX11_product_85, sX11_product_86, sX11_product_89, sX11_product_90, sX11_product_91, sX11_product_92, sX11_product_93, am_rt_some, am_rt_void, am_rt_none, am_rt_ite, ↓reduceIte, if_true, if_false, and_self, true_and, and_true, true_or, or_true, Bool.false_eq_true, reduceCtorEq]
    by_cases z0 : c = 42
    · simp only [z0, opP, if_true]
    · by_cases z1 : r2 = 0
      · simp only [z0, z1, opP, if_true, if_false]
      · by_cases z2 : c = 47
        · simp only [z1, z2, opP, if_true, if_false, show ((47 : Int32) = 42) = False by decide]
        · simp only [z0, z1, z2, opP, if_true, if_false]
  -- the loop
  have key : ∀ (m q : Nat) (v : VF) (z2 z3 : Value) (I1 A1 : TI) (J1 : TJ), 120 ≤ q + m → Fr [(81, 15), (81, 16), (81, 17)] [] [] I A J I1 A1 J1 → I1 81 15 = nI q → I1 81 16 = 1 → I1 81 17 = I 81 17 → p ≤ q → q ≤ n → am_T (am_EV X (k + 1) mX11_product 5 [.ref 81, .int (v nm), z2, z3] [] (am_wd I1 A1 J1)) (oE (trPost n p nm (pLp t n sub sgP opP m q v) I A J)) := by
    intro m
    induction m with
    | zero =>
      intro q v z2 z3 I1 A1 J1 hc f e1 e2 e3 hq hqn
      have hc1 : I1 81 14 = nI n := (f.i 81 14 (by decide)).trans h1
      have hc2 : ∀ j, j < n → A1 88 j = t j := fun j hj => by rw [f.a 88 (by decide)]; exact h5 j hj
      rw [test q _ _ _ _ _ _ hqn hc1 e1 e2 hc2, lc_end (show n ≤ q by omega), if_neg (by decide)]
      simp only [sX11_product_96, sX11_product_97]
      exact am_T.re ⟨f, e1, hq, hqn, e3, Or.inr ⟨e2, v, rfl, rfl⟩⟩
    | succ m ih =>
      intro q v z2 z3 I1 A1 J1 hc f e1 e2 e3 hq hqn
      have hc1 : I1 81 14 = nI n := (f.i 81 14 (by decide)).trans h1
      have hc2 : ∀ j, j < n → A1 88 j = t j := fun j hj => by rw [f.a 88 (by decide)]; exact h5 j hj
      rw [test q _ _ _ _ _ _ hqn hc1 e1 e2 hc2]
      by_cases hsg : sgP (lc t n q) = true
      · have hqn' : q < n := by
          have hs2 := hsg
          simp only [sgP, Bool.or_eq_true, decide_eq_true_eq] at hs2
          rcases hs2 with (h | h) | h <;> exact lc_lt h (by decide)
        have hP : pLp t n sub sgP opP (m + 1) q v = (match (sub (q + 1)).2 with
          | none => ((sub (q + 1)).1, none)
          | some v2 => pLp t n sub sgP opP m (sub (q + 1)).1 (fun nm => opP (lc t n q) (v nm) (v2 nm))) := if_pos hsg
        rw [if_pos hsg, hP]
        simp only [sX11_product_32, sX11_product_33, sX11_product_36, sX11_product_37, sX11_product_40, sX11_product_41, sX11_product_42, sX11_product_43, sX11_product_43_r, sX11_product_44, sX11_product_47, sX11_product_48, sX11_product_49, sX11_product_52, sX11_product_53, wo_81, wf_81_0, wv_81_0, wf_81_1, wv_81_1, wp_81_1, wf_81_2, wv_81_2, wp_81_2, wf_81_3, wv_81_3, wf_81_4, wv_81_4, wf_81_5, wv_81_5, wf_81_6, wv_81_6, wp_81_6, wf_81_7, wv_81_7, wp_81_7, wf_81_8, wv_81_8, wf_81_9, wv_81_9, wp_81_9, wf_81_10, wv_81_10, wf_81_11, wv_81_11, wp_81_11, wf_81_12, wv_81_12, wp_81_12, wf_81_13, wv_81_13, wf_81_14, wv_81_14, wp_81_14, wf_81_15, wv_81_15, wp_81_15, wf_81_16, wv_81_16, wp_81_16, wf_81_17, wv_81_17, wp_81_17, wf_81_18, wv_81_18, wf_81_19, wv_81_19, wf_81_20, wv_81_20, wf_81_21, wv_81_21, wf_81_22, wv_81_22, wf_81_23, wv_81_23, wf_81_24, wv_81_24, wf_81_25, wv_81_25, wf_81_26, wv_81_26, wf_81_27, wv_81_27, wf_81_28, wv_81_28, wf_81_29, wv_81_29, wf_81_30, wv_81_30, wf_81_31, wv_81_31, wf_81_32, wv_81_32, wf_81_33, wv_81_33, wp_81_33, wf_81_34, wv_81_34, wf_81_35, wv_81_35, wp_81_35, wf_81_36, wv_81_36, wf_81_37, wv_81_37, wp_81_37, wf_81_38, wv_81_38, wf_81_39, wv_81_39, wf_81_40, wv_81_40, wf_81_41, wv_81_41, wf_81_42, wv_81_42, wp_81_42, wf_81_43, wv_81_43, wp_81_43, wf_81_44, wv_81_44, wp_81_44, wf_81_45, wv_81_45, wf_81_46, wv_81_46, wf_81_47, wv_81_47, wf_81_48, wv_81_48, wp_81_48, wf_81_49, wv_81_49, wf_81_50, wv_81_50, wp_81_50, wi_88, wg_88, ws_88, ww_88, wl_88, wn_88, am_rt_some, am_rt_void, am_rt_none, am_rt_ite, ↓reduceIte, if_true, if_false, and_self, true_and, and_true, true_or, or_true, Bool.false_eq_true, reduceCtorEq, e1, am_n1, hc2 q hqn', am_nin (show q < 120 by omega) (show (120 : Nat) < 2147483648 by omega), am_ncl (show q < 2147483648 by omega), show t q = lc t n q from (lc_in hqn').symm]
        refine am_T.rtE (hs X (k + 1) _ _ _ (q + 1) (by omega) ⟨hc1, rfl, e2, e3.trans h4, hc2, fun j hj => by rw [f.a 89 (by decide)]; exact h6 j hj, fun j hj => by rw [f.a 90 (by decide)]; exact h7 j hj, hn, by omega, hr⟩) ?_
        intro x I2 A2 J2 ⟨f2, g1, g2, g3, g4, g5⟩
        have f2' : Fr [(81, 15), (81, 16), (81, 17)] [] [] I A J I2 A2 J2 := (f.ui (by decide)).tr f2
        have g4' : I2 81 17 = I 81 17 := g4.trans e3
        rw [aft _ _ _ _ _ hsg]
        rcases g5 with ⟨g5, hno⟩ | ⟨g5, v2, hv2, rfl⟩
        · rw [test0 _ _ _ _ _ _ g5, hno]
          simp only [sX11_product_96, sX11_product_97]
          exact am_T.re ⟨f2', g1, by show p ≤ (sub (q + 1)).1; omega, g3, g4', Or.inl ⟨g5, rfl⟩⟩
        · rw [hv2]
          exact ih _ (fun nm => opP (lc t n q) (v nm) (v2 nm)) _ _ I2 A2 J2 (by omega) f2' g1 g5 g4' (by omega) g3
      · have hP : pLp t n sub sgP opP (m + 1) q v = (q, some v) := if_neg hsg
        rw [if_neg hsg, hP]
        simp only [sX11_product_96, sX11_product_97]
        exact am_T.re ⟨f, e1, hq, hqn, e3, Or.inr ⟨e2, v, rfl, rfl⟩⟩
  simp only [eX11_product, sX11_product_0, sX11_product_1, wo_81, wf_81_0, wv_81_0, wf_81_1, wv_81_1, wp_81_1, wf_81_2, wv_81_2, wp_81_2, wf_81_3, wv_81_3, wf_81_4, wv_81_4, wf_81_5, wv_81_5, wf_81_6, wv_81_6, wp_81_6, wf_81_7, wv_81_7, wp_81_7, wf_81_8, wv_81_8, wf_81_9, wv_81_9, wp_81_9, wf_81_10, wv_81_10, wf_81_11, wv_81_11, wp_81_11, wf_81_12, wv_81_12, wp_81_12, wf_81_13, wv_81_13, wf_81_14, wv_81_14, wp_81_14, wf_81_15, wv_81_15, wp_81_15, wf_81_16, wv_81_16, wp_81_16, wf_81_17, wv_81_17, wp_81_17, wf_81_18, wv_81_18, wf_81_19, wv_81_19, wf_81_20, wv_81_20, wf_81_21, wv_81_21, wf_81_22, wv_81_22, wf_81_23, wv_81_23, wf_81_24, wv_81_24, wf_81_25, wv_81_25, wf_81_26, wv_81_26, wf_81_27, wv_81_27, wf_81_28, wv_81_28, wf_81_29, wv_81_29, wf_81_30, wv_81_30, wf_81_31, wv_81_31, wf_81_32, wv_81_32, wf_81_33, wv_81_33, wp_81_33, wf_81_34, wv_81_34, wf_81_35, wv_81_35, wp_81_35, wf_81_36, wv_81_36, wf_81_37, wv_81_37, wp_81_37, wf_81_38, wv_81_38, wf_81_39, wv_81_39, wf_81_40, wv_81_40, wf_81_41, wv_81_41, wf_81_42, wv_81_42, wp_81_42, wf_81_43, wv_81_43, wp_81_43, wf_81_44, wv_81_44, wp_81_44, wf_81_45, wv_81_45, wf_81_46, wv_81_46, wf_81_47, wv_81_47, wf_81_48, wv_81_48, wp_81_48, wf_81_49, wv_81_49, wf_81_50, wv_81_50, wp_81_50, am_rt_some, am_rt_void, am_rt_none, am_rt_ite, ↓reduceIte, if_true, if_false, and_self, true_and, and_true, true_or, or_true, Bool.false_eq_true, reduceCtorEq]
  refine am_T.rtE hX ?_
  intro x I1 A1 J1 ⟨f, g1, g2, g3, g4, g5⟩
  rw [sX11_product_4]
  rcases g5 with ⟨g5, hno⟩ | ⟨g5, v, hv, rfl⟩
  · have e : pLv t n sub sgP opP p = ((sub p).1, none) := by unfold pLv; rw [hno]
    rw [e, test0 _ _ _ _ _ _ g5]
    simp only [sX11_product_96, sX11_product_97]
    exact am_T.re ⟨f, g1, g2, g3, g4, Or.inl ⟨g5, rfl⟩⟩
  · have e : pLv t n sub sgP opP p = pLp t n sub sgP opP 120 (sub p).1 v := by unfold pLv; rw [hv]
    rw [e]
    exact key 120 (sub p).1 v _ _ I1 A1 J1 (by omega) f g1 g5 g4 g2 g3


theorem rr_S {D n r : Nat} {t nm : Nat → Int32} {sub : Nat → PR} (hs : Rrs (D + 1) mX11_product n t nm r sub) : Rrs (D + 2) mX11_total n t nm r (pLv t n sub sgS opS) := by
  intro X d I A J p hd hpre
  obtain ⟨k, rfl⟩ : ∃ k, d = k + 2 := ⟨d - 2, by omega⟩
  have hX := hs X (k + 1) I A J p (by omega) hpre
  obtain ⟨h1, h2, h3, h4, h5, h6, h7, hn, hp, hr⟩ := hpre
  have e10 : ((1 : Int32) = 0) = False := by decide
  -- the test
  have test : ∀ (q : Nat) (v : Int32) (z2 z3 : Value) (I1 A1 : TI) (J1 : TJ), q ≤ n → I1 81 14 = nI n → I1 81 15 = nI q → I1 81 16 = 1 → (∀ j, j < n → A1 88 j = t j) → am_EV X (k + 1) mX11_total 5 [.ref 81, .int v, z2, z3] [] (am_wd I1 A1 J1) = if sgS (lc t n q) = true then am_EV X (k + 1) mX11_total 23 [.ref 81, .int v, z2, z3] [] (am_wd I1 A1 J1) else am_EV X (k + 1) mX11_total 62 [.ref 81, .int v, z2, z3] [] (am_wd I1 A1 J1) := by
    intro q v z2 z3 I1 A1 J1 hq g1 g2 g3 g4
    simp only [sX11_total_5, sX11_total_6, sX11_total_8, sX11_total_11, sX11_total_14, sX11_total_15, sX11_total_17, sX11_total_20, wo_81, wf_81_0, wv_81_0, wf_81_1, wv_81_1, wp_81_1, wf_81_2, wv_81_2, wp_81_2, wf_81_3, wv_81_3, wf_81_4, wv_81_4, wf_81_5, wv_81_5, wf_81_6, wv_81_6, wp_81_6, wf_81_7, wv_81_7, wp_81_7, wf_81_8, wv_81_8, wf_81_9, wv_81_9, wp_81_9, wf_81_10, wv_81_10, wf_81_11, wv_81_11, wp_81_11, wf_81_12, wv_81_12, wp_81_12, wf_81_13, wv_81_13, wf_81_14, wv_81_14, wp_81_14, wf_81_15, wv_81_15, wp_81_15, wf_81_16, wv_81_16, wp_81_16, wf_81_17, wv_81_17, wp_81_17, wf_81_18, wv_81_18, wf_81_19, wv_81_19, wf_81_20, wv_81_20, wf_81_21, wv_81_21, wf_81_22, wv_81_22, wf_81_23, wv_81_23, wf_81_24, wv_81_24, wf_81_25, wv_81_25, wf_81_26, wv_81_26, wf_81_27, wv_81_27, wf_81_28, wv_81_28, wf_81_29, wv_81_29, wf_81_30, wv_81_30, wf_81_31, wv_81_31, wf_81_32, wv_81_32, wf_81_33, wv_81_33, wp_81_33, wf_81_34, wv_81_34, wf_81_35, wv_81_35, wp_81_35, wf_81_36, wv_81_36, wf_81_37, wv_81_37, wp_81_37, wf_81_38, wv_81_38, wf_81_39, wv_81_39, wf_81_40, wv_81_40, wf_81_41, wv_81_41, wf_81_42, wv_81_42, wp_81_42, wf_81_43, wv_81_43, wp_81_43, wf_81_44, wv_81_44, wp_81_44, wf_81_45, wv_81_45, wf_81_46, wv_81_46, wf_81_47, wv_81_47, wf_81_48, wv_81_48, wp_81_48, wf_81_49, wv_81_49, wf_81_50, wv_81_50, wp_81_50, am_rt_some, am_rt_void, am_rt_none, am_rt_ite, ↓reduceIte, if_true, if_false, and_self, true_and, and_true, true_or, or_true, Bool.false_eq_true, reduceCtorEq, r_isAt (c := 43) hn hq g1 g2 g3 g4 (by decide), r_isAt (c := 45) hn hq g1 g2 g3 g4 (by decide), am_bi_eq0]
    by_cases z0 : lc t n q = 43 <;> by_cases z1 : lc t n q = 45 <;> simp only [sgS, z0, z1, decide_true, decide_false, Bool.or_true, Bool.true_or, Bool.or_self, Bool.or_false, Bool.false_or, Bool.false_eq_true, if_true, if_false, ite_self, not_true_eq_false, not_false_eq_true, show ((43 : Int32) = 45) = False by decide, show ((45 : Int32) = 43) = False by decide]
  have test0 : ∀ (v : Int32) (z2 z3 : Value) (I1 A1 : TI) (J1 : TJ), I1 81 16 = 0 → am_EV X (k + 1) mX11_total 5 [.ref 81, .int v, z2, z3] [] (am_wd I1 A1 J1) = am_EV X (k + 1) mX11_total 62 [.ref 81, .int v, z2, z3] [] (am_wd I1 A1 J1) := by
    intro v z2 z3 I1 A1 J1 g3
    simp only [sX11_total_5, sX11_total_6, sX11_total_8, sX11_total_11, sX11_total_14, sX11_total_15, sX11_total_17, sX11_total_20, wo_81, wf_81_0, wv_81_0, wf_81_1, wv_81_1, wp_81_1, wf_81_2, wv_81_2, wp_81_2, wf_81_3, wv_81_3, wf_81_4, wv_81_4, wf_81_5, wv_81_5, wf_81_6, wv_81_6, wp_81_6, wf_81_7, wv_81_7, wp_81_7, wf_81_8, wv_81_8, wf_81_9, wv_81_9, wp_81_9, wf_81_10, wv_81_10, wf_81_11, wv_81_11, wp_81_11, wf_81_12, wv_81_12, wp_81_12, wf_81_13, wv_81_13, wf_81_14, wv_81_14, wp_81_14, wf_81_15, wv_81_15, wp_81_15, wf_81_16, wv_81_16, wp_81_16, wf_81_17, wv_81_17, wp_81_17, wf_81_18, wv_81_18, wf_81_19, wv_81_19, wf_81_20, wv_81_20, wf_81_21, wv_81_21, wf_81_22, wv_81_22, wf_81_23, wv_81_23, wf_81_24, wv_81_24, wf_81_25, wv_81_25, wf_81_26, wv_81_26, wf_81_27, wv_81_27, wf_81_28, wv_81_28, wf_81_29, wv_81_29, wf_81_30, wv_81_30, wf_81_31, wv_81_31, wf_81_32, wv_81_32, wf_81_33, wv_81_33, wp_81_33, wf_81_34, wv_81_34, wf_81_35, wv_81_35, wp_81_35, wf_81_36, wv_81_36, wf_81_37, wv_81_37, wp_81_37, wf_81_38, wv_81_38, wf_81_39, wv_81_39, wf_81_40, wv_81_40, wf_81_41, wv_81_41, wf_81_42, wv_81_42, wp_81_42, wf_81_43, wv_81_43, wp_81_43, wf_81_44, wv_81_44, wp_81_44, wf_81_45, wv_81_45, wf_81_46, wv_81_46, wf_81_47, wv_81_47, wf_81_48, wv_81_48, wp_81_48, wf_81_49, wv_81_49, wf_81_50, wv_81_50, wp_81_50, am_rt_some, am_rt_void, am_rt_none, am_rt_ite, ↓reduceIte, if_true, if_false, and_self, true_and, and_true, true_or, or_true, Bool.false_eq_true, reduceCtorEq, r_isAt0 g3]
  have aft : ∀ (c v r2 : Int32) (zz : Value) (w : am_W), sgS c = true → am_EV X (k + 1) mX11_total 44 [.ref 81, .int v, .int (if c = 43 then 1 else 0), zz] [.int r2] w = am_EV X (k + 1) mX11_total 5 [.ref 81, .int (opS c v r2), .int (if c = 43 then 1 else 0), .int r2] [] w := by
    intro c v r2 zz w hc
    simp only [sX11_total_44, sX11_total_45, sX11_total_46, sX11_total_49, sX11_total_50, sX11_total_51, sX11_total_52, sX11_total_55, sX11_total_56, sX11_total_57, sX11_total_58, sX11_total_59, am_rt_some, am_rt_void, am_rt_none, am_rt_ite, ↓reduceIte, if_true, if_false, and_self, true_and, and_true, true_or, or_true, Bool.false_eq_true, reduceCtorEq]
    simp only [sgS, Bool.or_eq_true, decide_eq_true_eq] at hc
    by_cases z0 : c = 43
    · simp only [z0, opS, if_true, e10, if_false]
    · simp only [z0, opS, if_false, if_true]
  -- the loop
  have key : ∀ (m q : Nat) (v : VF) (z2 z3 : Value) (I1 A1 : TI) (J1 : TJ), 120 ≤ q + m → Fr [(81, 15), (81, 16), (81, 17)] [] [] I A J I1 A1 J1 → I1 81 15 = nI q → I1 81 16 = 1 → I1 81 17 = I 81 17 → p ≤ q → q ≤ n → am_T (am_EV X (k + 1) mX11_total 5 [.ref 81, .int (v nm), z2, z3] [] (am_wd I1 A1 J1)) (oE (trPost n p nm (pLp t n sub sgS opS m q v) I A J)) := by
    intro m
    induction m with
    | zero =>
      intro q v z2 z3 I1 A1 J1 hc f e1 e2 e3 hq hqn
      have hc1 : I1 81 14 = nI n := (f.i 81 14 (by decide)).trans h1
      have hc2 : ∀ j, j < n → A1 88 j = t j := fun j hj => by rw [f.a 88 (by decide)]; exact h5 j hj
      rw [test q _ _ _ _ _ _ hqn hc1 e1 e2 hc2, lc_end (show n ≤ q by omega), if_neg (by decide)]
      simp only [sX11_total_62, sX11_total_63]
      exact am_T.re ⟨f, e1, hq, hqn, e3, Or.inr ⟨e2, v, rfl, rfl⟩⟩
    | succ m ih =>
      intro q v z2 z3 I1 A1 J1 hc f e1 e2 e3 hq hqn
      have hc1 : I1 81 14 = nI n := (f.i 81 14 (by decide)).trans h1
      have hc2 : ∀ j, j < n → A1 88 j = t j := fun j hj => by rw [f.a 88 (by decide)]; exact h5 j hj
      rw [test q _ _ _ _ _ _ hqn hc1 e1 e2 hc2]
      by_cases hsg : sgS (lc t n q) = true
      · have hqn' : q < n := by
          have hs2 := hsg
          simp only [sgS, Bool.or_eq_true, decide_eq_true_eq] at hs2
          rcases hs2 with h | h <;> exact lc_lt h (by decide)
        have hP : pLp t n sub sgS opS (m + 1) q v = (match (sub (q + 1)).2 with
          | none => ((sub (q + 1)).1, none)
          | some v2 => pLp t n sub sgS opS m (sub (q + 1)).1 (fun nm => opS (lc t n q) (v nm) (v2 nm))) := if_pos hsg
        rw [if_pos hsg, hP]
        simp only [sX11_total_23, sX11_total_24, sX11_total_26, sX11_total_29, sX11_total_30, sX11_total_31, sX11_total_31_r, sX11_total_32, sX11_total_35, sX11_total_36, sX11_total_37, sX11_total_40, sX11_total_41, wo_81, wf_81_0, wv_81_0, wf_81_1, wv_81_1, wp_81_1, wf_81_2, wv_81_2, wp_81_2, wf_81_3, wv_81_3, wf_81_4, wv_81_4, wf_81_5, wv_81_5, wf_81_6, wv_81_6, wp_81_6, wf_81_7, wv_81_7, wp_81_7, wf_81_8, wv_81_8, wf_81_9, wv_81_9, wp_81_9, wf_81_10, wv_81_10, wf_81_11, wv_81_11, wp_81_11, wf_81_12, wv_81_12, wp_81_12, wf_81_13, wv_81_13, wf_81_14, wv_81_14, wp_81_14, wf_81_15, wv_81_15, wp_81_15, wf_81_16, wv_81_16, wp_81_16, wf_81_17, wv_81_17, wp_81_17, wf_81_18, wv_81_18, wf_81_19, wv_81_19, wf_81_20, wv_81_20, wf_81_21, wv_81_21, wf_81_22, wv_81_22, wf_81_23, wv_81_23, wf_81_24, wv_81_24, wf_81_25, wv_81_25, wf_81_26, wv_81_26, wf_81_27, wv_81_27, wf_81_28, wv_81_28, wf_81_29, wv_81_29, wf_81_30, wv_81_30, wf_81_31, wv_81_31, wf_81_32, wv_81_32, wf_81_33, wv_81_33, wp_81_33, wf_81_34, wv_81_34, wf_81_35, wv_81_35, wp_81_35, wf_81_36, wv_81_36, wf_81_37, wv_81_37, wp_81_37, wf_81_38, wv_81_38, wf_81_39, wv_81_39, wf_81_40, wv_81_40, wf_81_41, wv_81_41, wf_81_42, wv_81_42, wp_81_42, wf_81_43, wv_81_43, wp_81_43, wf_81_44, wv_81_44, wp_81_44, wf_81_45, wv_81_45, wf_81_46, wv_81_46, wf_81_47, wv_81_47, wf_81_48, wv_81_48, wp_81_48, wf_81_49, wv_81_49, wf_81_50, wv_81_50, wp_81_50, wi_88, wg_88, ws_88, ww_88, wl_88, wn_88, am_rt_some, am_rt_void, am_rt_none, am_rt_ite, ↓reduceIte, if_true, if_false, and_self, true_and, and_true, true_or, or_true, Bool.false_eq_true, reduceCtorEq, e1, am_n1, r_isAt (c := 43) hn hqn hc1 e1 e2 hc2 (by decide)]
        refine am_T.rtE (hs X (k + 1) _ _ _ (q + 1) (by omega) ⟨hc1, rfl, e2, e3.trans h4, hc2, fun j hj => by rw [f.a 89 (by decide)]; exact h6 j hj, fun j hj => by rw [f.a 90 (by decide)]; exact h7 j hj, hn, by omega, hr⟩) ?_
        intro x I2 A2 J2 ⟨f2, g1, g2, g3, g4, g5⟩
        have f2' : Fr [(81, 15), (81, 16), (81, 17)] [] [] I A J I2 A2 J2 := (f.ui (by decide)).tr f2
        have g4' : I2 81 17 = I 81 17 := g4.trans e3
        rw [aft _ _ _ _ _ hsg]
        rcases g5 with ⟨g5, hno⟩ | ⟨g5, v2, hv2, rfl⟩
        · rw [test0 _ _ _ _ _ _ g5, hno]
          simp only [sX11_total_62, sX11_total_63]
          exact am_T.re ⟨f2', g1, by show p ≤ (sub (q + 1)).1; omega, g3, g4', Or.inl ⟨g5, rfl⟩⟩
        · rw [hv2]
          exact ih _ (fun nm => opS (lc t n q) (v nm) (v2 nm)) _ _ I2 A2 J2 (by omega) f2' g1 g5 g4' (by omega) g3
      · have hP : pLp t n sub sgS opS (m + 1) q v = (q, some v) := if_neg hsg
        rw [if_neg hsg, hP]
        simp only [sX11_total_62, sX11_total_63]
        exact am_T.re ⟨f, e1, hq, hqn, e3, Or.inr ⟨e2, v, rfl, rfl⟩⟩
  simp only [eX11_total, sX11_total_0, sX11_total_1, wo_81, wf_81_0, wv_81_0, wf_81_1, wv_81_1, wp_81_1, wf_81_2, wv_81_2, wp_81_2, wf_81_3, wv_81_3, wf_81_4, wv_81_4, wf_81_5, wv_81_5, wf_81_6, wv_81_6, wp_81_6, wf_81_7, wv_81_7, wp_81_7, wf_81_8, wv_81_8, wf_81_9, wv_81_9, wp_81_9, wf_81_10, wv_81_10, wf_81_11, wv_81_11, wp_81_11, wf_81_12, wv_81_12, wp_81_12, wf_81_13, wv_81_13, wf_81_14, wv_81_14, wp_81_14, wf_81_15, wv_81_15, wp_81_15, wf_81_16, wv_81_16, wp_81_16, wf_81_17, wv_81_17, wp_81_17, wf_81_18, wv_81_18, wf_81_19, wv_81_19, wf_81_20, wv_81_20, wf_81_21, wv_81_21, wf_81_22, wv_81_22, wf_81_23, wv_81_23, wf_81_24, wv_81_24, wf_81_25, wv_81_25, wf_81_26, wv_81_26, wf_81_27, wv_81_27, wf_81_28, wv_81_28, wf_81_29, wv_81_29, wf_81_30, wv_81_30, wf_81_31, wv_81_31, wf_81_32, wv_81_32, wf_81_33, wv_81_33, wp_81_33, wf_81_34, wv_81_34, wf_81_35, wv_81_35, wp_81_35, wf_81_36, wv_81_36, wf_81_37, wv_81_37, wp_81_37, wf_81_38, wv_81_38, wf_81_39, wv_81_39, wf_81_40, wv_81_40, wf_81_41, wv_81_41, wf_81_42, wv_81_42, wp_81_42, wf_81_43, wv_81_43, wp_81_43, wf_81_44, wv_81_44, wp_81_44, wf_81_45, wv_81_45, wf_81_46, wv_81_46, wf_81_47, wv_81_47, wf_81_48, wv_81_48, wp_81_48, wf_81_49, wv_81_49, wf_81_50, wv_81_50, wp_81_50, am_rt_some, am_rt_void, am_rt_none, am_rt_ite, ↓reduceIte, if_true, if_false, and_self, true_and, and_true, true_or, or_true, Bool.false_eq_true, reduceCtorEq]
  refine am_T.rtE hX ?_
  intro x I1 A1 J1 ⟨f, g1, g2, g3, g4, g5⟩
  rw [sX11_total_4]
  rcases g5 with ⟨g5, hno⟩ | ⟨g5, v, hv, rfl⟩
  · have e : pLv t n sub sgS opS p = ((sub p).1, none) := by unfold pLv; rw [hno]
    rw [e, test0 _ _ _ _ _ _ g5]
    simp only [sX11_total_62, sX11_total_63]
    exact am_T.re ⟨f, g1, g2, g3, g4, Or.inl ⟨g5, rfl⟩⟩
  · have e : pLv t n sub sgS opS p = pLp t n sub sgS opS 120 (sub p).1 v := by unfold pLv; rw [hv]
    rw [e]
    exact key 120 (sub p).1 v _ _ I1 A1 J1 (by omega) f g1 g5 g4 g2 g3


theorem rr_A {D n r : Nat} {t nm : Nat → Int32} {sub : Nat → PR} (hs : Rrs (D + 1) mX11_compared n t nm r sub) : Rrs (D + 2) mX11_both n t nm r (pLv t n sub sgA opA) := by
  intro X d I A J p hd hpre
  obtain ⟨k, rfl⟩ : ∃ k, d = k + 2 := ⟨d - 2, by omega⟩
  have hX := hs X (k + 1) I A J p (by omega) hpre
  obtain ⟨h1, h2, h3, h4, h5, h6, h7, hn, hp, hr⟩ := hpre
  have e10 : ((1 : Int32) = 0) = False := by decide
  -- the test
  have test : ∀ (q : Nat) (v : Int32) (z2 : Value) (I1 A1 : TI) (J1 : TJ), q ≤ n → I1 81 14 = nI n → I1 81 15 = nI q → I1 81 16 = 1 → (∀ j, j < n → A1 88 j = t j) → am_EV X (k + 1) mX11_both 5 [.ref 81, .int v, z2] [] (am_wd I1 A1 J1) = if sgA (lc t n q) = true then am_EV X (k + 1) mX11_both 14 [.ref 81, .int v, z2] [] (am_wd I1 A1 J1) else am_EV X (k + 1) mX11_both 46 [.ref 81, .int v, z2] [] (am_wd I1 A1 J1) := by
    intro q v z2 I1 A1 J1 hq g1 g2 g3 g4
    simp only [sX11_both_5, sX11_both_6, sX11_both_8, sX11_both_11, wo_81, wf_81_0, wv_81_0, wf_81_1, wv_81_1, wp_81_1, wf_81_2, wv_81_2, wp_81_2, wf_81_3, wv_81_3, wf_81_4, wv_81_4, wf_81_5, wv_81_5, wf_81_6, wv_81_6, wp_81_6, wf_81_7, wv_81_7, wp_81_7, wf_81_8, wv_81_8, wf_81_9, wv_81_9, wp_81_9, wf_81_10, wv_81_10, wf_81_11, wv_81_11, wp_81_11, wf_81_12, wv_81_12, wp_81_12, wf_81_13, wv_81_13, wf_81_14, wv_81_14, wp_81_14, wf_81_15, wv_81_15, wp_81_15, wf_81_16, wv_81_16, wp_81_16, wf_81_17, wv_81_17, wp_81_17, wf_81_18, wv_81_18, wf_81_19, wv_81_19, wf_81_20, wv_81_20, wf_81_21, wv_81_21, wf_81_22, wv_81_22, wf_81_23, wv_81_23, wf_81_24, wv_81_24, wf_81_25, wv_81_25, wf_81_26, wv_81_26, wf_81_27, wv_81_27, wf_81_28, wv_81_28, wf_81_29, wv_81_29, wf_81_30, wv_81_30, wf_81_31, wv_81_31, wf_81_32, wv_81_32, wf_81_33, wv_81_33, wp_81_33, wf_81_34, wv_81_34, wf_81_35, wv_81_35, wp_81_35, wf_81_36, wv_81_36, wf_81_37, wv_81_37, wp_81_37, wf_81_38, wv_81_38, wf_81_39, wv_81_39, wf_81_40, wv_81_40, wf_81_41, wv_81_41, wf_81_42, wv_81_42, wp_81_42, wf_81_43, wv_81_43, wp_81_43, wf_81_44, wv_81_44, wp_81_44, wf_81_45, wv_81_45, wf_81_46, wv_81_46, wf_81_47, wv_81_47, wf_81_48, wv_81_48, wp_81_48, wf_81_49, wv_81_49, wf_81_50, wv_81_50, wp_81_50, am_rt_some, am_rt_void, am_rt_none, am_rt_ite, ↓reduceIte, if_true, if_false, and_self, true_and, and_true, true_or, or_true, Bool.false_eq_true, reduceCtorEq, r_isAt (c := 38) hn hq g1 g2 g3 g4 (by decide), am_bi_eq0]
    by_cases z0 : lc t n q = 38 <;> simp only [sgA, z0, decide_true, decide_false, Bool.or_true, Bool.true_or, Bool.or_self, Bool.or_false, Bool.false_or, Bool.false_eq_true, if_true, if_false, ite_self, not_true_eq_false, not_false_eq_true]
  have test0 : ∀ (v : Int32) (z2 : Value) (I1 A1 : TI) (J1 : TJ), I1 81 16 = 0 → am_EV X (k + 1) mX11_both 5 [.ref 81, .int v, z2] [] (am_wd I1 A1 J1) = am_EV X (k + 1) mX11_both 46 [.ref 81, .int v, z2] [] (am_wd I1 A1 J1) := by
    intro v z2 I1 A1 J1 g3
    simp only [sX11_both_5, sX11_both_6, sX11_both_8, sX11_both_11, wo_81, wf_81_0, wv_81_0, wf_81_1, wv_81_1, wp_81_1, wf_81_2, wv_81_2, wp_81_2, wf_81_3, wv_81_3, wf_81_4, wv_81_4, wf_81_5, wv_81_5, wf_81_6, wv_81_6, wp_81_6, wf_81_7, wv_81_7, wp_81_7, wf_81_8, wv_81_8, wf_81_9, wv_81_9, wp_81_9, wf_81_10, wv_81_10, wf_81_11, wv_81_11, wp_81_11, wf_81_12, wv_81_12, wp_81_12, wf_81_13, wv_81_13, wf_81_14, wv_81_14, wp_81_14, wf_81_15, wv_81_15, wp_81_15, wf_81_16, wv_81_16, wp_81_16, wf_81_17, wv_81_17, wp_81_17, wf_81_18, wv_81_18, wf_81_19, wv_81_19, wf_81_20, wv_81_20, wf_81_21, wv_81_21, wf_81_22, wv_81_22, wf_81_23, wv_81_23, wf_81_24, wv_81_24, wf_81_25, wv_81_25, wf_81_26, wv_81_26, wf_81_27, wv_81_27, wf_81_28, wv_81_28, wf_81_29, wv_81_29, wf_81_30, wv_81_30, wf_81_31, wv_81_31, wf_81_32, wv_81_32, wf_81_33, wv_81_33, wp_81_33, wf_81_34, wv_81_34, wf_81_35, wv_81_35, wp_81_35, wf_81_36, wv_81_36, wf_81_37, wv_81_37, wp_81_37, wf_81_38, wv_81_38, wf_81_39, wv_81_39, wf_81_40, wv_81_40, wf_81_41, wv_81_41, wf_81_42, wv_81_42, wp_81_42, wf_81_43, wv_81_43, wp_81_43, wf_81_44, wv_81_44, wp_81_44, wf_81_45, wv_81_45, wf_81_46, wv_81_46, wf_81_47, wv_81_47, wf_81_48, wv_81_48, wp_81_48, wf_81_49, wv_81_49, wf_81_50, wv_81_50, wp_81_50, am_rt_some, am_rt_void, am_rt_none, am_rt_ite, ↓reduceIte, if_true, if_false, and_self, true_and, and_true, true_or, or_true, Bool.false_eq_true, reduceCtorEq, r_isAt0 g3]
  have aft : ∀ (c v r2 : Int32) (zz : Value) (w : am_W), sgA c = true → am_EV X (k + 1) mX11_both 28 [.ref 81, .int v, zz] [.int r2] w = am_EV X (k + 1) mX11_both 5 [.ref 81, .int (opA c v r2), .int r2] [] w := by
    intro c v r2 zz w hc
    simp only [sX11_both_28, sX11_both_29, sX11_both_30, sX11_both_33, sX11_both_34, sX11_both_37, sX11_both_38, sX11_both_41, sX11_both_42, sX11_both_43, am_rt_some, am_rt_void, am_rt_none, am_rt_ite, ↓reduceIte, if_true, if_false, and_self, true_and, and_true, true_or, or_true, Bool.false_eq_true, reduceCtorEq]
    by_cases z0 : v = 0 <;> by_cases z1 : r2 = 0 <;> simp only [z0, z1, opA, if_true, if_false]
  -- the loop
  have key : ∀ (m q : Nat) (v : VF) (z2 : Value) (I1 A1 : TI) (J1 : TJ), 120 ≤ q + m → Fr [(81, 15), (81, 16), (81, 17)] [] [] I A J I1 A1 J1 → I1 81 15 = nI q → I1 81 16 = 1 → I1 81 17 = I 81 17 → p ≤ q → q ≤ n → am_T (am_EV X (k + 1) mX11_both 5 [.ref 81, .int (v nm), z2] [] (am_wd I1 A1 J1)) (oE (trPost n p nm (pLp t n sub sgA opA m q v) I A J)) := by
    intro m
    induction m with
    | zero =>
      intro q v z2 I1 A1 J1 hc f e1 e2 e3 hq hqn
      have hc1 : I1 81 14 = nI n := (f.i 81 14 (by decide)).trans h1
      have hc2 : ∀ j, j < n → A1 88 j = t j := fun j hj => by rw [f.a 88 (by decide)]; exact h5 j hj
      rw [test q _ _ _ _ _ hqn hc1 e1 e2 hc2, lc_end (show n ≤ q by omega), if_neg (by decide)]
      simp only [sX11_both_46, sX11_both_47]
      exact am_T.re ⟨f, e1, hq, hqn, e3, Or.inr ⟨e2, v, rfl, rfl⟩⟩
    | succ m ih =>
      intro q v z2 I1 A1 J1 hc f e1 e2 e3 hq hqn
      have hc1 : I1 81 14 = nI n := (f.i 81 14 (by decide)).trans h1
      have hc2 : ∀ j, j < n → A1 88 j = t j := fun j hj => by rw [f.a 88 (by decide)]; exact h5 j hj
      rw [test q _ _ _ _ _ hqn hc1 e1 e2 hc2]
      by_cases hsg : sgA (lc t n q) = true
      · have hqn' : q < n := by
          have hs2 := hsg
          simp only [sgA, Bool.or_eq_true, decide_eq_true_eq] at hs2
          exact lc_lt hs2 (by decide)
        have hP : pLp t n sub sgA opA (m + 1) q v = (match (sub (q + 1)).2 with
          | none => ((sub (q + 1)).1, none)
          | some v2 => pLp t n sub sgA opA m (sub (q + 1)).1 (fun nm => opA (lc t n q) (v nm) (v2 nm))) := if_pos hsg
        rw [if_pos hsg, hP]
        simp only [sX11_both_14, sX11_both_15, sX11_both_15_r, sX11_both_16, sX11_both_19, sX11_both_20, sX11_both_21, sX11_both_24, sX11_both_25, wo_81, wf_81_0, wv_81_0, wf_81_1, wv_81_1, wp_81_1, wf_81_2, wv_81_2, wp_81_2, wf_81_3, wv_81_3, wf_81_4, wv_81_4, wf_81_5, wv_81_5, wf_81_6, wv_81_6, wp_81_6, wf_81_7, wv_81_7, wp_81_7, wf_81_8, wv_81_8, wf_81_9, wv_81_9, wp_81_9, wf_81_10, wv_81_10, wf_81_11, wv_81_11, wp_81_11, wf_81_12, wv_81_12, wp_81_12, wf_81_13, wv_81_13, wf_81_14, wv_81_14, wp_81_14, wf_81_15, wv_81_15, wp_81_15, wf_81_16, wv_81_16, wp_81_16, wf_81_17, wv_81_17, wp_81_17, wf_81_18, wv_81_18, wf_81_19, wv_81_19, wf_81_20, wv_81_20, wf_81_21, wv_81_21, wf_81_22, wv_81_22, wf_81_23, wv_81_23, wf_81_24, wv_81_24, wf_81_25, wv_81_25, wf_81_26, wv_81_26, wf_81_27, wv_81_27, wf_81_28, wv_81_28, wf_81_29, wv_81_29, wf_81_30, wv_81_30, wf_81_31, wv_81_31, wf_81_32, wv_81_32, wf_81_33, wv_81_33, wp_81_33, wf_81_34, wv_81_34, wf_81_35, wv_81_35, wp_81_35, wf_81_36, wv_81_36, wf_81_37, wv_81_37, wp_81_37, wf_81_38, wv_81_38, wf_81_39, wv_81_39, wf_81_40, wv_81_40, wf_81_41, wv_81_41, wf_81_42, wv_81_42, wp_81_42, wf_81_43, wv_81_43, wp_81_43, wf_81_44, wv_81_44, wp_81_44, wf_81_45, wv_81_45, wf_81_46, wv_81_46, wf_81_47, wv_81_47, wf_81_48, wv_81_48, wp_81_48, wf_81_49, wv_81_49, wf_81_50, wv_81_50, wp_81_50, wi_88, wg_88, ws_88, ww_88, wl_88, wn_88, am_rt_some, am_rt_void, am_rt_none, am_rt_ite, ↓reduceIte, if_true, if_false, and_self, true_and, and_true, true_or, or_true, Bool.false_eq_true, reduceCtorEq, e1, am_n1]
        refine am_T.rtE (hs X (k + 1) _ _ _ (q + 1) (by omega) ⟨hc1, rfl, e2, e3.trans h4, hc2, fun j hj => by rw [f.a 89 (by decide)]; exact h6 j hj, fun j hj => by rw [f.a 90 (by decide)]; exact h7 j hj, hn, by omega, hr⟩) ?_
        intro x I2 A2 J2 ⟨f2, g1, g2, g3, g4, g5⟩
        have f2' : Fr [(81, 15), (81, 16), (81, 17)] [] [] I A J I2 A2 J2 := (f.ui (by decide)).tr f2
        have g4' : I2 81 17 = I 81 17 := g4.trans e3
        rw [aft _ _ _ _ _ hsg]
        rcases g5 with ⟨g5, hno⟩ | ⟨g5, v2, hv2, rfl⟩
        · rw [test0 _ _ _ _ _ g5, hno]
          simp only [sX11_both_46, sX11_both_47]
          exact am_T.re ⟨f2', g1, by show p ≤ (sub (q + 1)).1; omega, g3, g4', Or.inl ⟨g5, rfl⟩⟩
        · rw [hv2]
          exact ih _ (fun nm => opA (lc t n q) (v nm) (v2 nm)) _ I2 A2 J2 (by omega) f2' g1 g5 g4' (by omega) g3
      · have hP : pLp t n sub sgA opA (m + 1) q v = (q, some v) := if_neg hsg
        rw [if_neg hsg, hP]
        simp only [sX11_both_46, sX11_both_47]
        exact am_T.re ⟨f, e1, hq, hqn, e3, Or.inr ⟨e2, v, rfl, rfl⟩⟩
  simp only [eX11_both, sX11_both_0, sX11_both_1, wo_81, wf_81_0, wv_81_0, wf_81_1, wv_81_1, wp_81_1, wf_81_2, wv_81_2, wp_81_2, wf_81_3, wv_81_3, wf_81_4, wv_81_4, wf_81_5, wv_81_5, wf_81_6, wv_81_6, wp_81_6, wf_81_7, wv_81_7, wp_81_7, wf_81_8, wv_81_8, wf_81_9, wv_81_9, wp_81_9, wf_81_10, wv_81_10, wf_81_11, wv_81_11, wp_81_11, wf_81_12, wv_81_12, wp_81_12, wf_81_13, wv_81_13, wf_81_14, wv_81_14, wp_81_14, wf_81_15, wv_81_15, wp_81_15, wf_81_16, wv_81_16, wp_81_16, wf_81_17, wv_81_17, wp_81_17, wf_81_18, wv_81_18, wf_81_19, wv_81_19, wf_81_20, wv_81_20, wf_81_21, wv_81_21, wf_81_22, wv_81_22, wf_81_23, wv_81_23, wf_81_24, wv_81_24, wf_81_25, wv_81_25, wf_81_26, wv_81_26, wf_81_27, wv_81_27, wf_81_28, wv_81_28, wf_81_29, wv_81_29, wf_81_30, wv_81_30, wf_81_31, wv_81_31, wf_81_32, wv_81_32, wf_81_33, wv_81_33, wp_81_33, wf_81_34, wv_81_34, wf_81_35, wv_81_35, wp_81_35, wf_81_36, wv_81_36, wf_81_37, wv_81_37, wp_81_37, wf_81_38, wv_81_38, wf_81_39, wv_81_39, wf_81_40, wv_81_40, wf_81_41, wv_81_41, wf_81_42, wv_81_42, wp_81_42, wf_81_43, wv_81_43, wp_81_43, wf_81_44, wv_81_44, wp_81_44, wf_81_45, wv_81_45, wf_81_46, wv_81_46, wf_81_47, wv_81_47, wf_81_48, wv_81_48, wp_81_48, wf_81_49, wv_81_49, wf_81_50, wv_81_50, wp_81_50, am_rt_some, am_rt_void, am_rt_none, am_rt_ite, ↓reduceIte, if_true, if_false, and_self, true_and, and_true, true_or, or_true, Bool.false_eq_true, reduceCtorEq]
  refine am_T.rtE hX ?_
  intro x I1 A1 J1 ⟨f, g1, g2, g3, g4, g5⟩
  rw [sX11_both_4]
  rcases g5 with ⟨g5, hno⟩ | ⟨g5, v, hv, rfl⟩
  · have e : pLv t n sub sgA opA p = ((sub p).1, none) := by unfold pLv; rw [hno]
    rw [e, test0 _ _ _ _ _ g5]
    simp only [sX11_both_46, sX11_both_47]
    exact am_T.re ⟨f, g1, g2, g3, g4, Or.inl ⟨g5, rfl⟩⟩
  · have e : pLv t n sub sgA opA p = pLp t n sub sgA opA 120 (sub p).1 v := by unfold pLv; rw [hv]
    rw [e]
    exact key 120 (sub p).1 v _ I1 A1 J1 (by omega) f g1 g5 g4 g2 g3


theorem rr_E {D n r : Nat} {t nm : Nat → Int32} {sub : Nat → PR} (hs : Rrs (D + 1) mX11_both n t nm r sub) : Rrs (D + 2) mX11_any n t nm r (pLv t n sub sgE opE) := by
  intro X d I A J p hd hpre
  obtain ⟨k, rfl⟩ : ∃ k, d = k + 2 := ⟨d - 2, by omega⟩
  have hX := hs X (k + 1) I A J p (by omega) hpre
  obtain ⟨h1, h2, h3, h4, h5, h6, h7, hn, hp, hr⟩ := hpre
  have e10 : ((1 : Int32) = 0) = False := by decide
  -- the test
  have test : ∀ (q : Nat) (v : Int32) (z2 : Value) (I1 A1 : TI) (J1 : TJ), q ≤ n → I1 81 14 = nI n → I1 81 15 = nI q → I1 81 16 = 1 → (∀ j, j < n → A1 88 j = t j) → am_EV X (k + 1) mX11_any 5 [.ref 81, .int v, z2] [] (am_wd I1 A1 J1) = if sgE (lc t n q) = true then am_EV X (k + 1) mX11_any 14 [.ref 81, .int v, z2] [] (am_wd I1 A1 J1) else am_EV X (k + 1) mX11_any 46 [.ref 81, .int v, z2] [] (am_wd I1 A1 J1) := by
    intro q v z2 I1 A1 J1 hq g1 g2 g3 g4
    simp only [sX11_any_5, sX11_any_6, sX11_any_8, sX11_any_11, wo_81, wf_81_0, wv_81_0, wf_81_1, wv_81_1, wp_81_1, wf_81_2, wv_81_2, wp_81_2, wf_81_3, wv_81_3, wf_81_4, wv_81_4, wf_81_5, wv_81_5, wf_81_6, wv_81_6, wp_81_6, wf_81_7, wv_81_7, wp_81_7, wf_81_8, wv_81_8, wf_81_9, wv_81_9, wp_81_9, wf_81_10, wv_81_10, wf_81_11, wv_81_11, wp_81_11, wf_81_12, wv_81_12, wp_81_12, wf_81_13, wv_81_13, wf_81_14, wv_81_14, wp_81_14, wf_81_15, wv_81_15, wp_81_15, wf_81_16, wv_81_16, wp_81_16, wf_81_17, wv_81_17, wp_81_17, wf_81_18, wv_81_18, wf_81_19, wv_81_19, wf_81_20, wv_81_20, wf_81_21, wv_81_21, wf_81_22, wv_81_22, wf_81_23, wv_81_23, wf_81_24, wv_81_24, wf_81_25, wv_81_25, wf_81_26, wv_81_26, wf_81_27, wv_81_27, wf_81_28, wv_81_28, wf_81_29, wv_81_29, wf_81_30, wv_81_30, wf_81_31, wv_81_31, wf_81_32, wv_81_32, wf_81_33, wv_81_33, wp_81_33, wf_81_34, wv_81_34, wf_81_35, wv_81_35, wp_81_35, wf_81_36, wv_81_36, wf_81_37, wv_81_37, wp_81_37, wf_81_38, wv_81_38, wf_81_39, wv_81_39, wf_81_40, wv_81_40, wf_81_41, wv_81_41, wf_81_42, wv_81_42, wp_81_42, wf_81_43, wv_81_43, wp_81_43, wf_81_44, wv_81_44, wp_81_44, wf_81_45, wv_81_45, wf_81_46, wv_81_46, wf_81_47, wv_81_47, wf_81_48, wv_81_48, wp_81_48, wf_81_49, wv_81_49, wf_81_50, wv_81_50, wp_81_50, am_rt_some, am_rt_void, am_rt_none, am_rt_ite, ↓reduceIte, if_true, if_false, and_self, true_and, and_true, true_or, or_true, Bool.false_eq_true, reduceCtorEq, r_isAt (c := 124) hn hq g1 g2 g3 g4 (by decide), am_bi_eq0]
    by_cases z0 : lc t n q = 124 <;> simp only [sgE, z0, decide_true, decide_false, Bool.or_true, Bool.true_or, Bool.or_self, Bool.or_false, Bool.false_or, Bool.false_eq_true, if_true, if_false, ite_self, not_true_eq_false, not_false_eq_true]
  have test0 : ∀ (v : Int32) (z2 : Value) (I1 A1 : TI) (J1 : TJ), I1 81 16 = 0 → am_EV X (k + 1) mX11_any 5 [.ref 81, .int v, z2] [] (am_wd I1 A1 J1) = am_EV X (k + 1) mX11_any 46 [.ref 81, .int v, z2] [] (am_wd I1 A1 J1) := by
    intro v z2 I1 A1 J1 g3
    simp only [sX11_any_5, sX11_any_6, sX11_any_8, sX11_any_11, wo_81, wf_81_0, wv_81_0, wf_81_1, wv_81_1, wp_81_1, wf_81_2, wv_81_2, wp_81_2, wf_81_3, wv_81_3, wf_81_4, wv_81_4, wf_81_5, wv_81_5, wf_81_6, wv_81_6, wp_81_6, wf_81_7, wv_81_7, wp_81_7, wf_81_8, wv_81_8, wf_81_9, wv_81_9, wp_81_9, wf_81_10, wv_81_10, wf_81_11, wv_81_11, wp_81_11, wf_81_12, wv_81_12, wp_81_12, wf_81_13, wv_81_13, wf_81_14, wv_81_14, wp_81_14, wf_81_15, wv_81_15, wp_81_15, wf_81_16, wv_81_16, wp_81_16, wf_81_17, wv_81_17, wp_81_17, wf_81_18, wv_81_18, wf_81_19, wv_81_19, wf_81_20, wv_81_20, wf_81_21, wv_81_21, wf_81_22, wv_81_22, wf_81_23, wv_81_23, wf_81_24, wv_81_24, wf_81_25, wv_81_25, wf_81_26, wv_81_26, wf_81_27, wv_81_27, wf_81_28, wv_81_28, wf_81_29, wv_81_29, wf_81_30, wv_81_30, wf_81_31, wv_81_31, wf_81_32, wv_81_32, wf_81_33, wv_81_33, wp_81_33, wf_81_34, wv_81_34, wf_81_35, wv_81_35, wp_81_35, wf_81_36, wv_81_36, wf_81_37, wv_81_37, wp_81_37, wf_81_38, wv_81_38, wf_81_39, wv_81_39, wf_81_40, wv_81_40, wf_81_41, wv_81_41, wf_81_42, wv_81_42, wp_81_42, wf_81_43, wv_81_43, wp_81_43, wf_81_44, wv_81_44, wp_81_44, wf_81_45, wv_81_45, wf_81_46, wv_81_46, wf_81_47, wv_81_47, wf_81_48, wv_81_48, wp_81_48, wf_81_49, wv_81_49, wf_81_50, wv_81_50, wp_81_50, am_rt_some, am_rt_void, am_rt_none, am_rt_ite, ↓reduceIte, if_true, if_false, and_self, true_and, and_true, true_or, or_true, Bool.false_eq_true, reduceCtorEq, r_isAt0 g3]
  have aft : ∀ (c v r2 : Int32) (zz : Value) (w : am_W), sgE c = true → am_EV X (k + 1) mX11_any 28 [.ref 81, .int v, zz] [.int r2] w = am_EV X (k + 1) mX11_any 5 [.ref 81, .int (opE c v r2), .int r2] [] w := by
    intro c v r2 zz w hc
    simp only [sX11_any_28, sX11_any_29, sX11_any_30, sX11_any_33, sX11_any_34, sX11_any_37, sX11_any_38, sX11_any_41, sX11_any_42, sX11_any_43, am_rt_some, am_rt_void, am_rt_none, am_rt_ite, ↓reduceIte, if_true, if_false, and_self, true_and, and_true, true_or, or_true, Bool.false_eq_true, reduceCtorEq]
    by_cases z0 : v = 0 <;> by_cases z1 : r2 = 0 <;> simp only [z0, z1, opE, if_true, if_false]
  -- the loop
  have key : ∀ (m q : Nat) (v : VF) (z2 : Value) (I1 A1 : TI) (J1 : TJ), 120 ≤ q + m → Fr [(81, 15), (81, 16), (81, 17)] [] [] I A J I1 A1 J1 → I1 81 15 = nI q → I1 81 16 = 1 → I1 81 17 = I 81 17 → p ≤ q → q ≤ n → am_T (am_EV X (k + 1) mX11_any 5 [.ref 81, .int (v nm), z2] [] (am_wd I1 A1 J1)) (oE (trPost n p nm (pLp t n sub sgE opE m q v) I A J)) := by
    intro m
    induction m with
    | zero =>
      intro q v z2 I1 A1 J1 hc f e1 e2 e3 hq hqn
      have hc1 : I1 81 14 = nI n := (f.i 81 14 (by decide)).trans h1
      have hc2 : ∀ j, j < n → A1 88 j = t j := fun j hj => by rw [f.a 88 (by decide)]; exact h5 j hj
      rw [test q _ _ _ _ _ hqn hc1 e1 e2 hc2, lc_end (show n ≤ q by omega), if_neg (by decide)]
      simp only [sX11_any_46, sX11_any_47]
      exact am_T.re ⟨f, e1, hq, hqn, e3, Or.inr ⟨e2, v, rfl, rfl⟩⟩
    | succ m ih =>
      intro q v z2 I1 A1 J1 hc f e1 e2 e3 hq hqn
      have hc1 : I1 81 14 = nI n := (f.i 81 14 (by decide)).trans h1
      have hc2 : ∀ j, j < n → A1 88 j = t j := fun j hj => by rw [f.a 88 (by decide)]; exact h5 j hj
      rw [test q _ _ _ _ _ hqn hc1 e1 e2 hc2]
      by_cases hsg : sgE (lc t n q) = true
      · have hqn' : q < n := by
          have hs2 := hsg
          simp only [sgE, Bool.or_eq_true, decide_eq_true_eq] at hs2
          exact lc_lt hs2 (by decide)
        have hP : pLp t n sub sgE opE (m + 1) q v = (match (sub (q + 1)).2 with
          | none => ((sub (q + 1)).1, none)
          | some v2 => pLp t n sub sgE opE m (sub (q + 1)).1 (fun nm => opE (lc t n q) (v nm) (v2 nm))) := if_pos hsg
        rw [if_pos hsg, hP]
        simp only [sX11_any_14, sX11_any_15, sX11_any_15_r, sX11_any_16, sX11_any_19, sX11_any_20, sX11_any_21, sX11_any_24, sX11_any_25, wo_81, wf_81_0, wv_81_0, wf_81_1, wv_81_1, wp_81_1, wf_81_2, wv_81_2, wp_81_2, wf_81_3, wv_81_3, wf_81_4, wv_81_4, wf_81_5, wv_81_5, wf_81_6, wv_81_6, wp_81_6, wf_81_7, wv_81_7, wp_81_7, wf_81_8, wv_81_8, wf_81_9, wv_81_9, wp_81_9, wf_81_10, wv_81_10, wf_81_11, wv_81_11, wp_81_11, wf_81_12, wv_81_12, wp_81_12, wf_81_13, wv_81_13, wf_81_14, wv_81_14, wp_81_14, wf_81_15, wv_81_15, wp_81_15, wf_81_16, wv_81_16, wp_81_16, wf_81_17, wv_81_17, wp_81_17, wf_81_18, wv_81_18, wf_81_19, wv_81_19, wf_81_20, wv_81_20, wf_81_21, wv_81_21, wf_81_22, wv_81_22, wf_81_23, wv_81_23, wf_81_24, wv_81_24, wf_81_25, wv_81_25, wf_81_26, wv_81_26, wf_81_27, wv_81_27, wf_81_28, wv_81_28, wf_81_29, wv_81_29, wf_81_30, wv_81_30, wf_81_31, wv_81_31, wf_81_32, wv_81_32, wf_81_33, wv_81_33, wp_81_33, wf_81_34, wv_81_34, wf_81_35, wv_81_35, wp_81_35, wf_81_36, wv_81_36, wf_81_37, wv_81_37, wp_81_37, wf_81_38, wv_81_38, wf_81_39, wv_81_39, wf_81_40, wv_81_40, wf_81_41, wv_81_41, wf_81_42, wv_81_42, wp_81_42, wf_81_43, wv_81_43, wp_81_43, wf_81_44, wv_81_44, wp_81_44, wf_81_45, wv_81_45, wf_81_46, wv_81_46, wf_81_47, wv_81_47, wf_81_48, wv_81_48, wp_81_48, wf_81_49, wv_81_49, wf_81_50, wv_81_50, wp_81_50, wi_88, wg_88, ws_88, ww_88, wl_88, wn_88, am_rt_some, am_rt_void, am_rt_none, am_rt_ite, ↓reduceIte, if_true, if_false, and_self, true_and, and_true, true_or, or_true, Bool.false_eq_true, reduceCtorEq, e1, am_n1]
        refine am_T.rtE (hs X (k + 1) _ _ _ (q + 1) (by omega) ⟨hc1, rfl, e2, e3.trans h4, hc2, fun j hj => by rw [f.a 89 (by decide)]; exact h6 j hj, fun j hj => by rw [f.a 90 (by decide)]; exact h7 j hj, hn, by omega, hr⟩) ?_
        intro x I2 A2 J2 ⟨f2, g1, g2, g3, g4, g5⟩
        have f2' : Fr [(81, 15), (81, 16), (81, 17)] [] [] I A J I2 A2 J2 := (f.ui (by decide)).tr f2
        have g4' : I2 81 17 = I 81 17 := g4.trans e3
        rw [aft _ _ _ _ _ hsg]
        rcases g5 with ⟨g5, hno⟩ | ⟨g5, v2, hv2, rfl⟩
        · rw [test0 _ _ _ _ _ g5, hno]
          simp only [sX11_any_46, sX11_any_47]
          exact am_T.re ⟨f2', g1, by show p ≤ (sub (q + 1)).1; omega, g3, g4', Or.inl ⟨g5, rfl⟩⟩
        · rw [hv2]
          exact ih _ (fun nm => opE (lc t n q) (v nm) (v2 nm)) _ I2 A2 J2 (by omega) f2' g1 g5 g4' (by omega) g3
      · have hP : pLp t n sub sgE opE (m + 1) q v = (q, some v) := if_neg hsg
        rw [if_neg hsg, hP]
        simp only [sX11_any_46, sX11_any_47]
        exact am_T.re ⟨f, e1, hq, hqn, e3, Or.inr ⟨e2, v, rfl, rfl⟩⟩
  simp only [eX11_any, sX11_any_0, sX11_any_1, wo_81, wf_81_0, wv_81_0, wf_81_1, wv_81_1, wp_81_1, wf_81_2, wv_81_2, wp_81_2, wf_81_3, wv_81_3, wf_81_4, wv_81_4, wf_81_5, wv_81_5, wf_81_6, wv_81_6, wp_81_6, wf_81_7, wv_81_7, wp_81_7, wf_81_8, wv_81_8, wf_81_9, wv_81_9, wp_81_9, wf_81_10, wv_81_10, wf_81_11, wv_81_11, wp_81_11, wf_81_12, wv_81_12, wp_81_12, wf_81_13, wv_81_13, wf_81_14, wv_81_14, wp_81_14, wf_81_15, wv_81_15, wp_81_15, wf_81_16, wv_81_16, wp_81_16, wf_81_17, wv_81_17, wp_81_17, wf_81_18, wv_81_18, wf_81_19, wv_81_19, wf_81_20, wv_81_20, wf_81_21, wv_81_21, wf_81_22, wv_81_22, wf_81_23, wv_81_23, wf_81_24, wv_81_24, wf_81_25, wv_81_25, wf_81_26, wv_81_26, wf_81_27, wv_81_27, wf_81_28, wv_81_28, wf_81_29, wv_81_29, wf_81_30, wv_81_30, wf_81_31, wv_81_31, wf_81_32, wv_81_32, wf_81_33, wv_81_33, wp_81_33, wf_81_34, wv_81_34, wf_81_35, wv_81_35, wp_81_35, wf_81_36, wv_81_36, wf_81_37, wv_81_37, wp_81_37, wf_81_38, wv_81_38, wf_81_39, wv_81_39, wf_81_40, wv_81_40, wf_81_41, wv_81_41, wf_81_42, wv_81_42, wp_81_42, wf_81_43, wv_81_43, wp_81_43, wf_81_44, wv_81_44, wp_81_44, wf_81_45, wv_81_45, wf_81_46, wv_81_46, wf_81_47, wv_81_47, wf_81_48, wv_81_48, wp_81_48, wf_81_49, wv_81_49, wf_81_50, wv_81_50, wp_81_50, am_rt_some, am_rt_void, am_rt_none, am_rt_ite, ↓reduceIte, if_true, if_false, and_self, true_and, and_true, true_or, or_true, Bool.false_eq_true, reduceCtorEq]
  refine am_T.rtE hX ?_
  intro x I1 A1 J1 ⟨f, g1, g2, g3, g4, g5⟩
  rw [sX11_any_4]
  rcases g5 with ⟨g5, hno⟩ | ⟨g5, v, hv, rfl⟩
  · have e : pLv t n sub sgE opE p = ((sub p).1, none) := by unfold pLv; rw [hno]
    rw [e, test0 _ _ _ _ _ g5]
    simp only [sX11_any_46, sX11_any_47]
    exact am_T.re ⟨f, g1, g2, g3, g4, Or.inl ⟨g5, rfl⟩⟩
  · have e : pLv t n sub sgE opE p = pLp t n sub sgE opE 120 (sub p).1 v := by unfold pLv; rw [hv]
    rw [e]
    exact key 120 (sub p).1 v _ I1 A1 J1 (by omega) f g1 g5 g4 g2 g3

end RR

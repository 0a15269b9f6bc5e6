/-! THE REFERENCE'S READER: a text; law(), grows() -/
section RG
variable {X : Nat × (Nat → Int32)} {d : Nat} {I A : TI} {J : TJ} {w : am_W}
def lnC : List LN → NM → Bool
  | [], _ => false
  | (none, _) :: _, _ => true
  | (some c, _) :: r, nm => if c nm = 0 then lnC r nm else true
theorem lnV_nc : ∀ {l : List LN} {nm : NM}, lnC l nm = false → lnV l nm = 0
  | [], _, _ => rfl
  | (none, _) :: _, _, h => by cases h
  | (some c, v) :: r, nm, h => by
    show (if c nm = 0 then lnV r nm else v nm) = 0
    have h' : (if c nm = 0 then lnC r nm else true) = false := h
    by_cases q : c nm = 0
    · rw [if_pos q] at h' ⊢
      exact lnV_nc h'
    · rw [if_neg q] at h'
      cases h'
theorem ln_snoc : ∀ (l : List LN) (x : LN) (nm : NM), lnV (l ++ [x]) nm = (if lnC l nm = true then lnV l nm else lnV [x] nm) ∧ lnC (l ++ [x]) nm = (lnC l nm || lnC [x] nm)
  | [], x, nm => ⟨rfl, rfl⟩
  | (none, v) :: r, x, nm => ⟨rfl, rfl⟩
  | (some c, v) :: r, x, nm => by
    obtain ⟨h1, h2⟩ := ln_snoc r x nm
    constructor
    · show (if c nm = 0 then lnV (r ++ [x]) nm else v nm) = if (if c nm = 0 then lnC r nm else true) = true then (if c nm = 0 then lnV r nm else v nm) else lnV [x] nm
      by_cases q : c nm = 0
      · simp only [q, if_true]; exact h1
      · simp only [q, if_false, if_true]
    · show (if c nm = 0 then lnC (r ++ [x]) nm else true) = ((if c nm = 0 then lnC r nm else true) || lnC [x] nm)
      by_cases q : c nm = 0
      · simp only [q, if_true]; exact h2
      · simp only [q, if_false, Bool.true_or]
def tgPost (n : Nat) (nm : NM) (r : Nat × Option (List LN)) (I A : TI) (J : TJ) : Int32 → TI → TI → TJ → Prop := fun x I' A' J' => Fr [(81, 15), (81, 16), (81, 17)] [] [] I A J I' A' J' ∧ I' 81 15 = nI r.1 ∧ r.1 ≤ n ∧ ((I' 81 16 = 0 ∧ r.2 = none) ∨ (I' 81 16 = 1 ∧ ∃ l, r.2 = some l ∧ 0 < l.length ∧ x = lnV l nm))
theorem rr_gives {n : Nat} {t nm : Nat → Int32} (h1 : I 81 14 = nI n) (h5 : ∀ j, j < n → A 88 j = t j) (h6 : ∀ j, j < 6 → A 89 j = nm j) (h7 : ∀ j, j < 6 → A 90 j = ([115, 116, 109, 102, 105, 119] : List Int32).getD j 0) (hn : n ≤ 120) : am_T (am_CL X (d + 46) mX11_gives [.ref 81] (am_wd I A J)) (oE (tgPost n nm (pText t n) I A J)) := by
  have e10 : ((1 : Int32) = 0) = False := by decide
  have upd : ∀ (f c v i : Int32) (mo : Value) (w : am_W), am_EV X (d + 45) mX11_gives 71 [.ref 81, .int f, .int c, mo, .int v, .int i] [] w = am_EV X (d + 45) mX11_gives 102 [.ref 81, .int (if i = 0 then f else if c = 0 then v else f), .int (if c = 0 then (if i = 0 then 0 else 1) else 1), mo, .int v, .int i] [] w := by
    intro f c v i mo w
    simp only [sX11_gives_71, sX11_gives_73, sX11_gives_76, sX11_gives_77, sX11_gives_80, sX11_gives_82, sX11_gives_85, sX11_gives_86, sX11_gives_87, sX11_gives_88, sX11_gives_91, sX11_gives_93, sX11_gives_96, sX11_gives_97, sX11_gives_100, sX11_gives_101, am_rt_some, am_rt_void, am_rt_none, am_rt_ite, ↓reduceIte, if_true, if_false, and_self, true_and, and_true, true_or, or_true, Bool.false_eq_true, reduceCtorEq]
    by_cases y0 : i = 0 <;> by_cases y1 : c = 0 <;> simp only [y0, y1, if_true, if_false]
  have tail0 : ∀ (f c : Int32) (mo z4 z5 : Value) (I1 A1 : TI) (J1 : TJ), I1 81 16 = 0 → am_EV X (d + 45) mX11_gives 102 [.ref 81, .int f, .int c, mo, z4, z5] [] (am_wd I1 A1 J1) = some (some (.int f), am_wd (am_u2 I1 81 15 (I1 81 15 + 0)) A1 J1) := by
    intro f c mo z4 z5 I1 A1 J1 h
    simp only [sX11_gives_102, sX11_gives_103, sX11_gives_105, sX11_gives_108, sX11_gives_109, sX11_gives_110, sX11_gives_110_r, sX11_gives_111, sX11_gives_114, sX11_gives_115, sX11_gives_118, sX11_gives_119, sX11_gives_122, sX11_gives_123, sX11_gives_124, sX11_gives_127, wo_81, wf_81_0, wv_81_0, wf_81_1, wv_81_1, wp_81_1, wf_81_2, wv_81_2, wp_81_2, wf_81_3, wv_81_3, wf_81_4, wv_81_4, wf_81_5, wv_81_5, wf_81_6, wv_81_6, wp_81_6, wf_81_7, wv_81_7, wp_81_7, wf_81_8, wv_81_8, wf_81_9, wv_81_9, wp_81_9, wf_81_10, wv_81_10, wf_81_11, wv_81_11, wp_81_11, wf_81_12, wv_81_12, wp_81_12, wf_81_13, wv_81_13, wf_81_14, wv_81_14, wp_81_14, wf_81_15, wv_81_15, wp_81_15, wf_81_16, wv_81_16, wp_81_16, wf_81_17, wv_81_17, wp_81_17, wf_81_18, wv_81_18, wf_81_19, wv_81_19, wf_81_20, wv_81_20, wf_81_21, wv_81_21, wf_81_22, wv_81_22, wf_81_23, wv_81_23, wf_81_24, wv_81_24, wf_81_25, wv_81_25, wf_81_26, wv_81_26, wf_81_27, wv_81_27, wf_81_28, wv_81_28, wf_81_29, wv_81_29, wf_81_30, wv_81_30, wf_81_31, wv_81_31, wf_81_32, wv_81_32, wf_81_33, wv_81_33, wp_81_33, wf_81_34, wv_81_34, wf_81_35, wv_81_35, wp_81_35, wf_81_36, wv_81_36, wf_81_37, wv_81_37, wp_81_37, wf_81_38, wv_81_38, wf_81_39, wv_81_39, wf_81_40, wv_81_40, wf_81_41, wv_81_41, wf_81_42, wv_81_42, wp_81_42, wf_81_43, wv_81_43, wp_81_43, wf_81_44, wv_81_44, wp_81_44, wf_81_45, wv_81_45, wf_81_46, wv_81_46, wf_81_47, wv_81_47, wf_81_48, wv_81_48, wp_81_48, wf_81_49, wv_81_49, wf_81_50, wv_81_50, wp_81_50, am_rt_some, am_rt_void, am_rt_none, am_rt_ite, ↓reduceIte, if_true, if_false, and_self, true_and, and_true, true_or, or_true, Bool.false_eq_true, reduceCtorEq, r_isAt0 h, sX11_gives_21, sX11_gives_22, sX11_gives_130, sX11_gives_131]
  have tail1 : ∀ (q : Nat) (f c : Int32) (mo z4 z5 : Value) (I1 A1 : TI) (J1 : TJ), q ≤ n → I1 81 14 = nI n → I1 81 15 = nI q → I1 81 16 = 1 → (∀ j, j < n → A1 88 j = t j) → am_EV X (d + 45) mX11_gives 102 [.ref 81, .int f, .int c, mo, z4, z5] [] (am_wd I1 A1 J1) = if lc t n q = 59 then am_EV X (d + 45) mX11_gives 25 [.ref 81, .int f, .int c, .int 1, z4, z5] [] (am_wd (am_u2 I1 81 15 (nI (q + 1))) A1 J1) else some (some (.int f), am_wd (am_u2 I1 81 15 (nI q)) A1 J1) := by
    intro q f c mo z4 z5 I1 A1 J1 hq g1 g2 g3 g4
    simp only [sX11_gives_102, sX11_gives_103, sX11_gives_105, sX11_gives_108, wo_81, wf_81_0, wv_81_0, wf_81_1, wv_81_1, wp_81_1, wf_81_2, wv_81_2, wp_81_2, wf_81_3, wv_81_3, wf_81_4, wv_81_4, wf_81_5, wv_81_5, wf_81_6, wv_81_6, wp_81_6, wf_81_7, wv_81_7, wp_81_7, wf_81_8, wv_81_8, wf_81_9, wv_81_9, wp_81_9, wf_81_10, wv_81_10, wf_81_11, wv_81_11, wp_81_11, wf_81_12, wv_81_12, wp_81_12, wf_81_13, wv_81_13, wf_81_14, wv_81_14, wp_81_14, wf_81_15, wv_81_15, wp_81_15, wf_81_16, wv_81_16, wp_81_16, wf_81_17, wv_81_17, wp_81_17, wf_81_18, wv_81_18, wf_81_19, wv_81_19, wf_81_20, wv_81_20, wf_81_21, wv_81_21, wf_81_22, wv_81_22, wf_81_23, wv_81_23, wf_81_24, wv_81_24, wf_81_25, wv_81_25, wf_81_26, wv_81_26, wf_81_27, wv_81_27, wf_81_28, wv_81_28, wf_81_29, wv_81_29, wf_81_30, wv_81_30, wf_81_31, wv_81_31, wf_81_32, wv_81_32, wf_81_33, wv_81_33, wp_81_33, wf_81_34, wv_81_34, wf_81_35, wv_81_35, wp_81_35, wf_81_36, wv_81_36, wf_81_37, wv_81_37, wp_81_37, wf_81_38, wv_81_38, wf_81_39, wv_81_39, wf_81_40, wv_81_40, wf_81_41, wv_81_41, wf_81_42, wv_81_42, wp_81_42, wf_81_43, wv_81_43, wp_81_43, wf_81_44, wv_81_44, wp_81_44, wf_81_45, wv_81_45, wf_81_46, wv_81_46, wf_81_47, wv_81_47, wf_81_48, wv_81_48, wp_81_48, wf_81_49, wv_81_49, wf_81_50, wv_81_50, wp_81_50, am_rt_some, am_rt_void, am_rt_none, am_rt_ite, ↓reduceIte, if_true, if_false, and_self, true_and, and_true, true_or, or_true, Bool.false_eq_true, reduceCtorEq, r_isAt (c := 59) hn hq g1 g2 g3 g4 (by decide)]
    by_cases y : lc t n q = 59
    · simp only [y, if_true, sX11_gives_109, sX11_gives_110, sX11_gives_110_r, sX11_gives_111, sX11_gives_114, sX11_gives_115, sX11_gives_118, sX11_gives_119, sX11_gives_122, sX11_gives_123, sX11_gives_124, sX11_gives_127, wo_81, wf_81_0, wv_81_0, wf_81_1, wv_81_1, wp_81_1, wf_81_2, wv_81_2, wp_81_2, wf_81_3, wv_81_3, wf_81_4, wv_81_4, wf_81_5, wv_81_5, wf_81_6, wv_81_6, wp_81_6, wf_81_7, wv_81_7, wp_81_7, wf_81_8, wv_81_8, wf_81_9, wv_81_9, wp_81_9, wf_81_10, wv_81_10, wf_81_11, wv_81_11, wp_81_11, wf_81_12, wv_81_12, wp_81_12, wf_81_13, wv_81_13, wf_81_14, wv_81_14, wp_81_14, wf_81_15, wv_81_15, wp_81_15, wf_81_16, wv_81_16, wp_81_16, wf_81_17, wv_81_17, wp_81_17, wf_81_18, wv_81_18, wf_81_19, wv_81_19, wf_81_20, wv_81_20, wf_81_21, wv_81_21, wf_81_22, wv_81_22, wf_81_23, wv_81_23, wf_81_24, wv_81_24, wf_81_25, wv_81_25, wf_81_26, wv_81_26, wf_81_27, wv_81_27, wf_81_28, wv_81_28, wf_81_29, wv_81_29, wf_81_30, wv_81_30, wf_81_31, wv_81_31, wf_81_32, wv_81_32, wf_81_33, wv_81_33, wp_81_33, wf_81_34, wv_81_34, wf_81_35, wv_81_35, wp_81_35, wf_81_36, wv_81_36, wf_81_37, wv_81_37, wp_81_37, wf_81_38, wv_81_38, wf_81_39, wv_81_39, wf_81_40, wv_81_40, wf_81_41, wv_81_41, wf_81_42, wv_81_42, wp_81_42, wf_81_43, wv_81_43, wp_81_43, wf_81_44, wv_81_44, wp_81_44, wf_81_45, wv_81_45, wf_81_46, wv_81_46, wf_81_47, wv_81_47, wf_81_48, wv_81_48, wp_81_48, wf_81_49, wv_81_49, wf_81_50, wv_81_50, wp_81_50, am_rt_some, am_rt_void, am_rt_none, am_rt_ite, ↓reduceIte, if_true, if_false, and_self, true_and, and_true, true_or, or_true, Bool.false_eq_true, reduceCtorEq, e10, g2, am_n1, sX11_gives_21, sX11_gives_22]
    · simp only [y, if_false, sX11_gives_109, sX11_gives_110, sX11_gives_110_r, sX11_gives_111, sX11_gives_114, sX11_gives_115, sX11_gives_118, sX11_gives_119, sX11_gives_122, sX11_gives_123, sX11_gives_124, sX11_gives_127, wo_81, wf_81_0, wv_81_0, wf_81_1, wv_81_1, wp_81_1, wf_81_2, wv_81_2, wp_81_2, wf_81_3, wv_81_3, wf_81_4, wv_81_4, wf_81_5, wv_81_5, wf_81_6, wv_81_6, wp_81_6, wf_81_7, wv_81_7, wp_81_7, wf_81_8, wv_81_8, wf_81_9, wv_81_9, wp_81_9, wf_81_10, wv_81_10, wf_81_11, wv_81_11, wp_81_11, wf_81_12, wv_81_12, wp_81_12, wf_81_13, wv_81_13, wf_81_14, wv_81_14, wp_81_14, wf_81_15, wv_81_15, wp_81_15, wf_81_16, wv_81_16, wp_81_16, wf_81_17, wv_81_17, wp_81_17, wf_81_18, wv_81_18, wf_81_19, wv_81_19, wf_81_20, wv_81_20, wf_81_21, wv_81_21, wf_81_22, wv_81_22, wf_81_23, wv_81_23, wf_81_24, wv_81_24, wf_81_25, wv_81_25, wf_81_26, wv_81_26, wf_81_27, wv_81_27, wf_81_28, wv_81_28, wf_81_29, wv_81_29, wf_81_30, wv_81_30, wf_81_31, wv_81_31, wf_81_32, wv_81_32, wf_81_33, wv_81_33, wp_81_33, wf_81_34, wv_81_34, wf_81_35, wv_81_35, wp_81_35, wf_81_36, wv_81_36, wf_81_37, wv_81_37, wp_81_37, wf_81_38, wv_81_38, wf_81_39, wv_81_39, wf_81_40, wv_81_40, wf_81_41, wv_81_41, wf_81_42, wv_81_42, wp_81_42, wf_81_43, wv_81_43, wp_81_43, wf_81_44, wv_81_44, wp_81_44, wf_81_45, wv_81_45, wf_81_46, wv_81_46, wf_81_47, wv_81_47, wf_81_48, wv_81_48, wp_81_48, wf_81_49, wv_81_49, wf_81_50, wv_81_50, wp_81_50, am_rt_some, am_rt_void, am_rt_none, am_rt_ite, ↓reduceIte, if_true, if_false, and_self, true_and, and_true, true_or, or_true, Bool.false_eq_true, reduceCtorEq, g2, sX11_gives_21, sX11_gives_22, sX11_gives_130, sX11_gives_131, Int32.add_zero]
  -- a line, with what is behind it
  have line : ∀ (q : Nat) (f c mo : Int32) (z4 z5 : Value) (I1 A1 : TI) (J1 : TJ) (Q : Option Value → am_W → Prop), q ≤ n → Fr [(81, 15), (81, 16), (81, 17)] [] [] I A J I1 A1 J1 → I1 81 15 = nI q → I1 81 16 = 1 → I1 81 17 = nI 0 →
      (∀ (x : Int32) (I2 A2 : TI) (J2 : TJ), (pLine t n q).2 = none → Fr [(81, 15), (81, 16), (81, 17)] [] [] I A J I2 A2 J2 → I2 81 15 = nI (pLine t n q).1 → (pLine t n q).1 ≤ n → I2 81 16 = 0 → Q (some (.int x)) (am_wd I2 A2 J2)) →
      (∀ (x : LN) (z4 z5 : Value) (I2 A2 : TI) (J2 : TJ), (pLine t n q).2 = some x → q ≤ (pLine t n q).1 → (pLine t n q).1 ≤ n → Fr [(81, 15), (81, 16), (81, 17)] [] [] I A J I2 A2 J2 → I2 81 15 = nI (pLine t n q).1 → I2 81 16 = 1 → I2 81 17 = nI 0 → am_T (am_EV X (d + 45) mX11_gives 102 [.ref 81, .int (if lnC [x] nm = true then (if c = 0 then x.2 nm else f) else f), .int (if c = 0 then (if lnC [x] nm = true then 1 else 0) else 1), .int mo, z4, z5] [] (am_wd I2 A2 J2)) Q) →
      am_T (am_EV X (d + 45) mX11_gives 25 [.ref 81, .int f, .int c, .int mo, z4, z5] [] (am_wd I1 A1 J1)) Q := by
    intro q f c mo z4 z5 I1 A1 J1 Q hq fr g1 g2 g3 kf ks
    have hc1 : I1 81 14 = nI n := (fr.i 81 14 (by decide)).trans h1
    have hc2 : ∀ j, j < n → A1 88 j = t j := fun j hj => by rw [fr.a 88 (by decide)]; exact h5 j hj
    have hc3 : ∀ j, j < 6 → A1 89 j = nm j := fun j hj => by rw [fr.a 89 (by decide)]; exact h6 j hj
    have hc4 : ∀ j, j < 6 → A1 90 j = ([115, 116, 109, 102, 105, 119] : List Int32).getD j 0 := fun j hj => by rw [fr.a 90 (by decide)]; exact h7 j hj
    simp only [sX11_gives_25, sX11_gives_26, wo_81, wf_81_0, wv_81_0, wf_81_1, wv_81_1, wp_81_1, wf_81_2, wv_81_2, wp_81_2, wf_81_3, wv_81_3, wf_81_4, wv_81_4, wf_81_5, wv_81_5, wf_81_6, wv_81_6, wp_81_6, wf_81_7, wv_81_7, wp_81_7, wf_81_8, wv_81_8, wf_81_9, wv_81_9, wp_81_9, wf_81_10, wv_81_10, wf_81_11, wv_81_11, wp_81_11, wf_81_12, wv_81_12, wp_81_12, wf_81_13, wv_81_13, wf_81_14, wv_81_14, wp_81_14, wf_81_15, wv_81_15, wp_81_15, wf_81_16, wv_81_16, wp_81_16, wf_81_17, wv_81_17, wp_81_17, wf_81_18, wv_81_18, wf_81_19, wv_81_19, wf_81_20, wv_81_20, wf_81_21, wv_81_21, wf_81_22, wv_81_22, wf_81_23, wv_81_23, wf_81_24, wv_81_24, wf_81_25, wv_81_25, wf_81_26, wv_81_26, wf_81_27, wv_81_27, wf_81_28, wv_81_28, wf_81_29, wv_81_29, wf_81_30, wv_81_30, wf_81_31, wv_81_31, wf_81_32, wv_81_32, wf_81_33, wv_81_33, wp_81_33, wf_81_34, wv_81_34, wf_81_35, wv_81_35, wp_81_35, wf_81_36, wv_81_36, wf_81_37, wv_81_37, wp_81_37, wf_81_38, wv_81_38, wf_81_39, wv_81_39, wf_81_40, wv_81_40, wf_81_41, wv_81_41, wf_81_42, wv_81_42, wp_81_42, wf_81_43, wv_81_43, wp_81_43, wf_81_44, wv_81_44, wp_81_44, wf_81_45, wv_81_45, wf_81_46, wv_81_46, wf_81_47, wv_81_47, wf_81_48, wv_81_48, wp_81_48, wf_81_49, wv_81_49, wf_81_50, wv_81_50, wp_81_50, am_rt_some, am_rt_void, am_rt_none, am_rt_ite, ↓reduceIte, if_true, if_false, and_self, true_and, and_true, true_or, or_true, Bool.false_eq_true, reduceCtorEq]
    refine am_T.rtE (rr_top (t := t) (nm := nm) X (d + 45) I1 A1 J1 q (by omega) ⟨hc1, g1, g2, g3, hc2, hc3, hc4, hn, hq, Nat.le_refl _⟩) ?_
    intro x I2 A2 J2 ⟨f2, y1, y2, y3, y4, y5⟩
    have f2' : Fr [(81, 15), (81, 16), (81, 17)] [] [] I A J I2 A2 J2 := fr.tr f2
    have hc1' : I2 81 14 = nI n := (f2.i 81 14 (by decide)).trans hc1
    have hc2' : ∀ j, j < n → A2 88 j = t j := fun j hj => by rw [f2.a 88 (by decide)]; exact hc2 j hj
    rcases y5 with ⟨y5, hno⟩ | ⟨y5, v, hv, rfl⟩
    · have e : pLine t n q = ((pE t n q).1, none) := by unfold pLine; rw [hno]
      rw [e] at kf
      simp only [sX11_gives_29, sX11_gives_31, sX11_gives_32, sX11_gives_34, sX11_gives_35, sX11_gives_37, sX11_gives_40, wo_81, wf_81_0, wv_81_0, wf_81_1, wv_81_1, wp_81_1, wf_81_2, wv_81_2, wp_81_2, wf_81_3, wv_81_3, wf_81_4, wv_81_4, wf_81_5, wv_81_5, wf_81_6, wv_81_6, wp_81_6, wf_81_7, wv_81_7, wp_81_7, wf_81_8, wv_81_8, wf_81_9, wv_81_9, wp_81_9, wf_81_10, wv_81_10, wf_81_11, wv_81_11, wp_81_11, wf_81_12, wv_81_12, wp_81_12, wf_81_13, wv_81_13, wf_81_14, wv_81_14, wp_81_14, wf_81_15, wv_81_15, wp_81_15, wf_81_16, wv_81_16, wp_81_16, wf_81_17, wv_81_17, wp_81_17, wf_81_18, wv_81_18, wf_81_19, wv_81_19, wf_81_20, wv_81_20, wf_81_21, wv_81_21, wf_81_22, wv_81_22, wf_81_23, wv_81_23, wf_81_24, wv_81_24, wf_81_25, wv_81_25, wf_81_26, wv_81_26, wf_81_27, wv_81_27, wf_81_28, wv_81_28, wf_81_29, wv_81_29, wf_81_30, wv_81_30, wf_81_31, wv_81_31, wf_81_32, wv_81_32, wf_81_33, wv_81_33, wp_81_33, wf_81_34, wv_81_34, wf_81_35, wv_81_35, wp_81_35, wf_81_36, wv_81_36, wf_81_37, wv_81_37, wp_81_37, wf_81_38, wv_81_38, wf_81_39, wv_81_39, wf_81_40, wv_81_40, wf_81_41, wv_81_41, wf_81_42, wv_81_42, wp_81_42, wf_81_43, wv_81_43, wp_81_43, wf_81_44, wv_81_44, wp_81_44, wf_81_45, wv_81_45, wf_81_46, wv_81_46, wf_81_47, wv_81_47, wf_81_48, wv_81_48, wp_81_48, wf_81_49, wv_81_49, wf_81_50, wv_81_50, wp_81_50, am_rt_some, am_rt_void, am_rt_none, am_rt_ite, ↓reduceIte, if_true, if_false, and_self, true_and, and_true, true_or, or_true, Bool.false_eq_true, reduceCtorEq, r_isAt0 y5]
      rw [upd, tail0 _ _ _ _ _ _ _ _ y5]
      exact ⟨_, _, rfl, kf _ _ _ _ rfl (f2'.ui (by decide)) (by show am_u2 I2 81 15 (I2 81 15 + 0) 81 15 = _; rw [y1, Int32.add_zero]; rfl) y3 y5⟩
    · simp only [sX11_gives_29, sX11_gives_31, sX11_gives_32, sX11_gives_34, sX11_gives_35, sX11_gives_37, sX11_gives_40, wo_81, wf_81_0, wv_81_0, wf_81_1, wv_81_1, wp_81_1, wf_81_2, wv_81_2, wp_81_2, wf_81_3, wv_81_3, wf_81_4, wv_81_4, wf_81_5, wv_81_5, wf_81_6, wv_81_6, wp_81_6, wf_81_7, wv_81_7, wp_81_7, wf_81_8, wv_81_8, wf_81_9, wv_81_9, wp_81_9, wf_81_10, wv_81_10, wf_81_11, wv_81_11, wp_81_11, wf_81_12, wv_81_12, wp_81_12, wf_81_13, wv_81_13, wf_81_14, wv_81_14, wp_81_14, wf_81_15, wv_81_15, wp_81_15, wf_81_16, wv_81_16, wp_81_16, wf_81_17, wv_81_17, wp_81_17, wf_81_18, wv_81_18, wf_81_19, wv_81_19, wf_81_20, wv_81_20, wf_81_21, wv_81_21, wf_81_22, wv_81_22, wf_81_23, wv_81_23, wf_81_24, wv_81_24, wf_81_25, wv_81_25, wf_81_26, wv_81_26, wf_81_27, wv_81_27, wf_81_28, wv_81_28, wf_81_29, wv_81_29, wf_81_30, wv_81_30, wf_81_31, wv_81_31, wf_81_32, wv_81_32, wf_81_33, wv_81_33, wp_81_33, wf_81_34, wv_81_34, wf_81_35, wv_81_35, wp_81_35, wf_81_36, wv_81_36, wf_81_37, wv_81_37, wp_81_37, wf_81_38, wv_81_38, wf_81_39, wv_81_39, wf_81_40, wv_81_40, wf_81_41, wv_81_41, wf_81_42, wv_81_42, wp_81_42, wf_81_43, wv_81_43, wp_81_43, wf_81_44, wv_81_44, wp_81_44, wf_81_45, wv_81_45, wf_81_46, wv_81_46, wf_81_47, wv_81_47, wf_81_48, wv_81_48, wp_81_48, wf_81_49, wv_81_49, wf_81_50, wv_81_50, wp_81_50, am_rt_some, am_rt_void, am_rt_none, am_rt_ite, ↓reduceIte, if_true, if_false, and_self, true_and, and_true, true_or, or_true, Bool.false_eq_true, reduceCtorEq, r_isAt (c := 63) hn y3 hc1' y1 y5 hc2' (by decide), am_bi_eq0]
      by_cases hs : lc t n (pE t n q).1 = 63
      · have hsn := lc_lt hs (by decide)
        have hP : pLine t n q = (match (pE t n ((pE t n q).1 + 1)).2 with
          | none => ((pE t n ((pE t n q).1 + 1)).1, none)
          | some v2 => ((pE t n ((pE t n q).1 + 1)).1, some (some v, v2))) := by
          unfold pLine
          rw [hv]
          exact if_pos hs
        have isv : ∀ (w : am_W), am_EV X (d + 45) mX11_gives 53 [.ref 81, .int f, .int c, .int mo, .int (v nm), .int 1] [] w = am_EV X (d + 45) mX11_gives 65 [.ref 81, .int f, .int c, .int mo, .int (v nm), .int (if v nm = 0 then 0 else 1)] [] w := by
          intro w
          simp only [sX11_gives_53, sX11_gives_55, sX11_gives_58, sX11_gives_59, sX11_gives_62, sX11_gives_63, am_rt_some, am_rt_void, am_rt_none, am_rt_ite, ↓reduceIte, if_true, if_false, and_self, true_and, and_true, true_or, or_true, Bool.false_eq_true, reduceCtorEq]
          by_cases z : v nm = 0 <;> simp only [z, if_true, if_false]
        rw [if_neg (fun g => g hs)]
        simp only [sX11_gives_43, sX11_gives_44, sX11_gives_44_r, sX11_gives_45, sX11_gives_48, sX11_gives_49, sX11_gives_50, wo_81, wf_81_0, wv_81_0, wf_81_1, wv_81_1, wp_81_1, wf_81_2, wv_81_2, wp_81_2, wf_81_3, wv_81_3, wf_81_4, wv_81_4, wf_81_5, wv_81_5, wf_81_6, wv_81_6, wp_81_6, wf_81_7, wv_81_7, wp_81_7, wf_81_8, wv_81_8, wf_81_9, wv_81_9, wp_81_9, wf_81_10, wv_81_10, wf_81_11, wv_81_11, wp_81_11, wf_81_12, wv_81_12, wp_81_12, wf_81_13, wv_81_13, wf_81_14, wv_81_14, wp_81_14, wf_81_15, wv_81_15, wp_81_15, wf_81_16, wv_81_16, wp_81_16, wf_81_17, wv_81_17, wp_81_17, wf_81_18, wv_81_18, wf_81_19, wv_81_19, wf_81_20, wv_81_20, wf_81_21, wv_81_21, wf_81_22, wv_81_22, wf_81_23, wv_81_23, wf_81_24, wv_81_24, wf_81_25, wv_81_25, wf_81_26, wv_81_26, wf_81_27, wv_81_27, wf_81_28, wv_81_28, wf_81_29, wv_81_29, wf_81_30, wv_81_30, wf_81_31, wv_81_31, wf_81_32, wv_81_32, wf_81_33, wv_81_33, wp_81_33, wf_81_34, wv_81_34, wf_81_35, wv_81_35, wp_81_35, wf_81_36, wv_81_36, wf_81_37, wv_81_37, wp_81_37, wf_81_38, wv_81_38, wf_81_39, wv_81_39, wf_81_40, wv_81_40, wf_81_41, wv_81_41, wf_81_42, wv_81_42, wp_81_42, wf_81_43, wv_81_43, wp_81_43, wf_81_44, wv_81_44, wp_81_44, wf_81_45, wv_81_45, wf_81_46, wv_81_46, wf_81_47, wv_81_47, wf_81_48, wv_81_48, wp_81_48, wf_81_49, wv_81_49, wf_81_50, wv_81_50, wp_81_50, am_rt_some, am_rt_void, am_rt_none, am_rt_ite, ↓reduceIte, if_true, if_false, and_self, true_and, and_true, true_or, or_true, Bool.false_eq_true, reduceCtorEq, y1, am_n1]
        rw [isv]
        simp only [sX11_gives_65, sX11_gives_66, wo_81, wf_81_0, wv_81_0, wf_81_1, wv_81_1, wp_81_1, wf_81_2, wv_81_2, wp_81_2, wf_81_3, wv_81_3, wf_81_4, wv_81_4, wf_81_5, wv_81_5, wf_81_6, wv_81_6, wp_81_6, wf_81_7, wv_81_7, wp_81_7, wf_81_8, wv_81_8, wf_81_9, wv_81_9, wp_81_9, wf_81_10, wv_81_10, wf_81_11, wv_81_11, wp_81_11, wf_81_12, wv_81_12, wp_81_12, wf_81_13, wv_81_13, wf_81_14, wv_81_14, wp_81_14, wf_81_15, wv_81_15, wp_81_15, wf_81_16, wv_81_16, wp_81_16, wf_81_17, wv_81_17, wp_81_17, wf_81_18, wv_81_18, wf_81_19, wv_81_19, wf_81_20, wv_81_20, wf_81_21, wv_81_21, wf_81_22, wv_81_22, wf_81_23, wv_81_23, wf_81_24, wv_81_24, wf_81_25, wv_81_25, wf_81_26, wv_81_26, wf_81_27, wv_81_27, wf_81_28, wv_81_28, wf_81_29, wv_81_29, wf_81_30, wv_81_30, wf_81_31, wv_81_31, wf_81_32, wv_81_32, wf_81_33, wv_81_33, wp_81_33, wf_81_34, wv_81_34, wf_81_35, wv_81_35, wp_81_35, wf_81_36, wv_81_36, wf_81_37, wv_81_37, wp_81_37, wf_81_38, wv_81_38, wf_81_39, wv_81_39, wf_81_40, wv_81_40, wf_81_41, wv_81_41, wf_81_42, wv_81_42, wp_81_42, wf_81_43, wv_81_43, wp_81_43, wf_81_44, wv_81_44, wp_81_44, wf_81_45, wv_81_45, wf_81_46, wv_81_46, wf_81_47, wv_81_47, wf_81_48, wv_81_48, wp_81_48, wf_81_49, wv_81_49, wf_81_50, wv_81_50, wp_81_50, am_rt_some, am_rt_void, am_rt_none, am_rt_ite, ↓reduceIte, if_true, if_false, and_self, true_and, and_true, true_or, or_true, Bool.false_eq_true, reduceCtorEq]
        refine am_T.rtE (rr_top (t := t) (nm := nm) X (d + 45) _ _ _ ((pE t n q).1 + 1) (by omega) ⟨hc1', rfl, y5, y4.trans g3, hc2', fun j hj => by rw [f2.a 89 (by decide)]; exact hc3 j hj, fun j hj => by rw [f2.a 90 (by decide)]; exact hc4 j hj, hn, by omega, Nat.le_refl _⟩) ?_
        intro x3 I3 A3 J3 ⟨f3, x1, x2, x3', x4, x5⟩
        have f3' : Fr [(81, 15), (81, 16), (81, 17)] [] [] I A J I3 A3 J3 := (f2'.ui (by decide)).tr f3
        rcases x5 with ⟨x5, hno⟩ | ⟨x5, v2, hv2, rfl⟩
        · rw [hP, hno] at kf
          rw [sX11_gives_69, upd, tail0 _ _ _ _ _ _ _ _ x5]
          exact ⟨_, _, rfl, kf _ _ _ _ rfl (f3'.ui (by decide)) (by show am_u2 I3 81 15 (I3 81 15 + 0) 81 15 = _; rw [x1, Int32.add_zero]; rfl) x3' x5⟩
        · rw [hP, hv2] at ks
          have e2 : (lnC [((some v, v2) : LN)] nm = true) = ¬ v nm = 0 := by
            show ((if v nm = 0 then false else true) = true) = _
            by_cases z : v nm = 0 <;> simp [z]
          have := ks (some v, v2) (.int (v2 nm)) (.int (if v nm = 0 then 0 else 1)) I3 A3 J3 rfl (by show q ≤ (pE t n ((pE t n q).1 + 1)).1; omega) x3' f3' x1 x5 ((x4.trans y4).trans g3)
          rw [sX11_gives_69, upd]
          simp only [e2] at this
          by_cases z : v nm = 0
          · simp only [z, if_true, not_true_eq_false, if_false] at this ⊢
            exact this
          · simp only [z, if_false, not_false_eq_true, if_true, e10] at this ⊢
            exact this
      · have hP : pLine t n q = ((pE t n q).1, some (none, v)) := by
          unfold pLine
          rw [hv]
          exact if_neg hs
        rw [hP] at ks
        rw [if_pos hs, upd]
        have := ks (none, v) (.int (v nm)) (.int 1) I2 A2 J2 rfl y2 y3 f2' y1 y5 (y4.trans g3)
        simp only [show lnC [((none, v) : LN)] nm = true from rfl, if_true] at this
        simp only [e10, if_false]
        exact this
  -- all lines
  have key : ∀ (m q : Nat) (l : List LN) (z4 z5 : Value) (I1 A1 : TI) (J1 : TJ), 120 ≤ q + m → q ≤ n → 0 < l.length → Fr [(81, 15), (81, 16), (81, 17)] [] [] I A J I1 A1 J1 → I1 81 15 = nI q → I1 81 16 = 1 → I1 81 17 = nI 0 → am_T (am_EV X (d + 45) mX11_gives 102 [.ref 81, .int (lnV l nm), .int (if lnC l nm = true then 1 else 0), .int 1, z4, z5] [] (am_wd I1 A1 J1)) (oE (tgPost n nm (pLs t n m q l) I A J)) := by
    intro m
    induction m with
    | zero =>
      intro q l z4 z5 I1 A1 J1 hqm hq hl fr g1 g2 g3
      have hc1 : I1 81 14 = nI n := (fr.i 81 14 (by decide)).trans h1
      have hc2 : ∀ j, j < n → A1 88 j = t j := fun j hj => by rw [fr.a 88 (by decide)]; exact h5 j hj
      rw [tail1 q _ _ _ _ _ _ _ _ hq hc1 g1 g2 hc2, lc_end (show n ≤ q by omega), if_neg (by decide)]
      exact am_T.re ⟨fr.ui (by decide), rfl, hq, Or.inr ⟨g2, l, rfl, hl, rfl⟩⟩
    | succ m ih =>
      intro q l z4 z5 I1 A1 J1 hqm hq hl fr g1 g2 g3
      have hc1 : I1 81 14 = nI n := (fr.i 81 14 (by decide)).trans h1
      have hc2 : ∀ j, j < n → A1 88 j = t j := fun j hj => by rw [fr.a 88 (by decide)]; exact h5 j hj
      rw [tail1 q _ _ _ _ _ _ _ _ hq hc1 g1 g2 hc2]
      by_cases hs : lc t n q = 59
      · have hqn := lc_lt hs (by decide)
        have hP : pLs t n (m + 1) q l = (match (pLine t n (q + 1)).2 with
          | none => ((pLine t n (q + 1)).1, none)
          | some x => pLs t n m (pLine t n (q + 1)).1 (l ++ [x])) := if_pos hs
        rw [if_pos hs, hP]
        refine line (q + 1) _ _ _ _ _ _ _ _ _ (by omega) (fr.ui (by decide)) rfl g2 g3 ?_ ?_
        · intro x I2 A2 J2 hno f2 y1 y2 y3
          rw [hno]
          exact ⟨I2, A2, J2, rfl, x, rfl, f2, y1, y2, Or.inl ⟨y3, rfl⟩⟩
        · intro x z4 z5 I2 A2 J2 hx y0 y1 f2 y2 y3 y4
          rw [hx]
          have := ih (pLine t n (q + 1)).1 (l ++ [x]) z4 z5 I2 A2 J2 (by omega) y1 (by rw [List.length_append, List.length_singleton]; omega) f2 y2 y3 y4
          obtain ⟨s1, s2⟩ := ln_snoc l x nm
          rw [s1, s2] at this
          have hx1 : ∀ x : LN, lnC [x] nm = false → lnV [x] nm = 0 := fun x h => lnV_nc h
          have hx2 : ∀ x : LN, lnC [x] nm = true → lnV [x] nm = x.2 nm := by
            intro x h
            obtain ⟨a, b⟩ := x
            cases a with
            | none => rfl
            | some c =>
              have h' : (if c nm = 0 then false else true) = true := h
              show (if c nm = 0 then lnV [] nm else b nm) = b nm
              by_cases z : c nm = 0
              · rw [if_pos z] at h'; cases h'
              · rw [if_neg z]
          cases hl1 : lnC l nm with
          | true =>
            simp only [hl1, if_true, Bool.true_or, e10, if_false, ite_self] at this ⊢
            exact this
          | false =>
            simp only [hl1, Bool.false_or, Bool.false_eq_true, if_false, if_true, lnV_nc hl1] at this ⊢
            cases hl2 : lnC [x] nm with
            | true =>
              simp only [hl2, if_true, hx2 x hl2] at this ⊢
              exact this
            | false =>
              simp only [hl2, Bool.false_eq_true, if_false, hx1 x hl2] at this ⊢
              exact this
      · have hP : pLs t n (m + 1) q l = (q, some l) := if_neg hs
        rw [if_neg hs, hP]
        exact am_T.re ⟨fr.ui (by decide), rfl, hq, Or.inr ⟨g2, l, rfl, hl, rfl⟩⟩
  simp only [eX11_gives, sX11_gives_0, sX11_gives_1, sX11_gives_2, sX11_gives_5, sX11_gives_6, sX11_gives_7, sX11_gives_10, sX11_gives_11, sX11_gives_12, sX11_gives_15, sX11_gives_16, sX11_gives_17, sX11_gives_18, sX11_gives_19, sX11_gives_20, sX11_gives_21, sX11_gives_22, wo_81, wf_81_0, wv_81_0, wf_81_1, wv_81_1, wp_81_1, wf_81_2, wv_81_2, wp_81_2, wf_81_3, wv_81_3, wf_81_4, wv_81_4, wf_81_5, wv_81_5, wf_81_6, wv_81_6, wp_81_6, wf_81_7, wv_81_7, wp_81_7, wf_81_8, wv_81_8, wf_81_9, wv_81_9, wp_81_9, wf_81_10, wv_81_10, wf_81_11, wv_81_11, wp_81_11, wf_81_12, wv_81_12, wp_81_12, wf_81_13, wv_81_13, wf_81_14, wv_81_14, wp_81_14, wf_81_15, wv_81_15, wp_81_15, wf_81_16, wv_81_16, wp_81_16, wf_81_17, wv_81_17, wp_81_17, wf_81_18, wv_81_18, wf_81_19, wv_81_19, wf_81_20, wv_81_20, wf_81_21, wv_81_21, wf_81_22, wv_81_22, wf_81_23, wv_81_23, wf_81_24, wv_81_24, wf_81_25, wv_81_25, wf_81_26, wv_81_26, wf_81_27, wv_81_27, wf_81_28, wv_81_28, wf_81_29, wv_81_29, wf_81_30, wv_81_30, wf_81_31, wv_81_31, wf_81_32, wv_81_32, wf_81_33, wv_81_33, wp_81_33, wf_81_34, wv_81_34, wf_81_35, wv_81_35, wp_81_35, wf_81_36, wv_81_36, wf_81_37, wv_81_37, wp_81_37, wf_81_38, wv_81_38, wf_81_39, wv_81_39, wf_81_40, wv_81_40, wf_81_41, wv_81_41, wf_81_42, wv_81_42, wp_81_42, wf_81_43, wv_81_43, wp_81_43, wf_81_44, wv_81_44, wp_81_44, wf_81_45, wv_81_45, wf_81_46, wv_81_46, wf_81_47, wv_81_47, wf_81_48, wv_81_48, wp_81_48, wf_81_49, wv_81_49, wf_81_50, wv_81_50, wp_81_50, am_rt_some, am_rt_void, am_rt_none, am_rt_ite, ↓reduceIte, if_true, if_false, and_self, true_and, and_true, true_or, or_true, Bool.false_eq_true, reduceCtorEq, e10]
  refine line 0 0 0 1 _ _ _ _ _ _ (Nat.zero_le _) (((Fr.rf.ui (by decide)).ui (by decide)).ui (by decide)) rfl rfl rfl ?_ ?_
  · intro x I2 A2 J2 hno f2 y1 y2 y3
    have e : pText t n = ((pLine t n 0).1, none) := by unfold pText; rw [hno]
    rw [e]
    exact ⟨I2, A2, J2, rfl, x, rfl, f2, y1, y2, Or.inl ⟨y3, rfl⟩⟩
  · intro x z4 z5 I2 A2 J2 hx y0 y1 f2 y2 y3 y4
    have e : pText t n = pLs t n 120 (pLine t n 0).1 [x] := by unfold pText; rw [hx]
    rw [e]
    have := key 120 (pLine t n 0).1 [x] z4 z5 I2 A2 J2 (by omega) y1 (Nat.succ_pos 0) f2 y2 y3 y4
    cases hl2 : lnC [x] nm with
    | true =>
      have hx2 : lnV [x] nm = x.2 nm := by
        obtain ⟨a, b⟩ := x
        cases a with
        | none => rfl
        | some c =>
          have h' : (if c nm = 0 then false else true) = true := hl2
          show (if c nm = 0 then lnV [] nm else b nm) = b nm
          by_cases z : c nm = 0
          · rw [if_pos z] at h'; cases h'
          · rw [if_neg z]
      simp only [hl2, if_true, hx2] at this ⊢
      exact this
    | false =>
      simp only [hl2, Bool.false_eq_true, if_false, if_true, lnV_nc hl2] at this ⊢
      exact this
end RG

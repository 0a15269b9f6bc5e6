/-! COOKING: the class's pots -/
section PS
variable {X : Nat × (Nat → Int32)} {d : Nat} {I A : TI} {J : TJ} {w : am_W}
theorem c_passFor15 {G : VF} {a b : Nat} {fi : Int32} (hG : cLaw G (A 8) (A 9) (A 10) (I 7 3)) (hab : a ≤ b) (hb : b < 5) : am_T (am_CL X (d + 4) mX6_pass [.ref 15, .int (nI a), .int (nI b), .ref 7, .int fi] (am_wd I A J)) (oU fun I' A' J' => Fr [(15, 2)] [11, 12, 17] [] I A J I' A' J' ∧ I' 15 2 = mn99 (I 15 2) ∧ ∀ i, i < 5 → A' 17 i = if a ≤ i ∧ i ≤ b then gT G (A 18 i) (A 17 i) (I 15 2) fi (nI i) (I 15 4) else A 17 i) := by
  have fin : ∀ (z : Value) (A1 : TI), Fr [(15, 2)] [11, 12, 17] [] I A J I A1 J → (∀ i, i < 5 → A1 17 i = if a ≤ i ∧ i ≤ b then gT G (A 18 i) (A 17 i) (I 15 2) fi (nI i) (I 15 4) else A 17 i) → am_T (am_EV X (d + 3) mX6_pass 52 [.ref 15, .int (nI a), .int (nI b), .ref 7, .int fi, z] [] (am_wd I A1 J)) (oU fun I' A' J' => Fr [(15, 2)] [11, 12, 17] [] I A J I' A' J' ∧ I' 15 2 = mn99 (I 15 2) ∧ ∀ i, i < 5 → A' 17 i = if a ≤ i ∧ i ≤ b then gT G (A 18 i) (A 17 i) (I 15 2) fi (nI i) (I 15 4) else A 17 i) := by
    intro z A1 f g
    simp only [sX6_pass_52, sX6_pass_53, sX6_pass_55, sX6_pass_56, sX6_pass_59, sX6_pass_60, sX6_pass_61, sX6_pass_64, sX6_pass_67, wo_15, wf_15_0, wv_15_0, wf_15_1, wv_15_1, wf_15_2, wv_15_2, wp_15_2, wf_15_3, wv_15_3, wf_15_4, wv_15_4, wp_15_4, am_rt_some, am_rt_void, am_rt_none, am_rt_ite, ↓reduceIte, if_true, if_false, and_self, true_and, and_true, true_or, or_true, Bool.false_eq_true, reduceCtorEq]
    exact am_T.ru ⟨f.ui (by decide), by rw [am_u2_at]; rfl, g⟩
  have key : ∀ (m k : Nat) (A1 : TI), k + m = b + 1 → a ≤ k → Fr [(15, 2)] [11, 12, 17] [] I A J I A1 J → (∀ i, i < 5 → A1 17 i = if a ≤ i ∧ i < k then gT G (A 18 i) (A 17 i) (I 15 2) fi (nI i) (I 15 4) else A 17 i) → am_T (am_EV X (d + 3) mX6_pass 3 [.ref 15, .int (nI a), .int (nI b), .ref 7, .int fi, .int (nI k)] [] (am_wd I A1 J)) (oU fun I' A' J' => Fr [(15, 2)] [11, 12, 17] [] I A J I' A' J' ∧ I' 15 2 = mn99 (I 15 2) ∧ ∀ i, i < 5 → A' 17 i = if a ≤ i ∧ i ≤ b then gT G (A 18 i) (A 17 i) (I 15 2) fi (nI i) (I 15 4) else A 17 i) := by
    intro m
    induction m with
    | zero =>
      intro k A1 hk ha f g
      have kb : k = b + 1 := by omega
      subst kb
      have lt : (nI b < nI (b + 1)) = True := eq_true (nI_lt (by omega) (by omega))
      simp only [sX6_pass_3, sX6_pass_5, sX6_pass_6, am_rt_some, am_rt_void, am_rt_none, am_rt_ite, ↓reduceIte, if_true, if_false, and_self, true_and, and_true, true_or, or_true, Bool.false_eq_true, reduceCtorEq, lt]
      refine fin _ A1 f (fun i hi => ?_)
      rw [g i hi]
      have : (a ≤ i ∧ i < b + 1) = (a ≤ i ∧ i ≤ b) := propext (by omega)
      simp only [this]
    | succ m ih =>
      intro k A1 hk ha f g
      have lt : (nI b < nI k) = False := by rw [am_nlt (show b < 2147483648 by omega) (show k < 2147483648 by omega)]; exact eq_false (by omega)
      have e1 : A1 18 = A 18 := f.a 18 (by decide)
      have e2 : A1 17 k = A 17 k := by rw [g k (by omega), if_neg (by omega)]
      rw [sX6_pass_3]
      simp only [sX6_pass_5, sX6_pass_6, sX6_pass_9, sX6_pass_10, sX6_pass_13, sX6_pass_15, sX6_pass_16, sX6_pass_17, sX6_pass_20, sX6_pass_22, sX6_pass_23, sX6_pass_24, sX6_pass_27, sX6_pass_29, sX6_pass_30, sX6_pass_31, sX6_pass_34, sX6_pass_36, sX6_pass_38, sX6_pass_39, wo_15, wf_15_0, wv_15_0, wf_15_1, wv_15_1, wf_15_2, wv_15_2, wp_15_2, wf_15_3, wv_15_3, wf_15_4, wv_15_4, wp_15_4, wi_17, wg_17, ws_17, ww_17, wl_17, wn_17, wi_18, wg_18, ws_18, ww_18, wl_18, wn_18, am_rt_some, am_rt_void, am_rt_none, am_rt_ite, ↓reduceIte, if_true, if_false, and_self, true_and, and_true, true_or, or_true, Bool.false_eq_true, reduceCtorEq, lt, am_nin (show k < 5 by omega) (show (5 : Nat) < 2147483648 by omega), am_ncl (show k < 2147483648 by omega), e1, e2]
      simp only [sX6_pass_42, wo_7, wf_7_0, wv_7_0, wf_7_1, wv_7_1, wf_7_2, wv_7_2, wf_7_3, wv_7_3, wp_7_3, wf_7_4, wv_7_4, wf_7_5, wv_7_5, am_rt_some, am_rt_void, am_rt_none, am_rt_ite, ↓reduceIte, if_true, if_false, and_self, true_and, and_true, true_or, or_true, Bool.false_eq_true, reduceCtorEq]
      have hG1 : cLaw G (A1 8) (A1 9) (A1 10) (I 7 3) := t_lac f (by decide) hG
      refine am_T.rtI (c_grown hG1) ?_
      intro I2 A2 J2 f2
      have i2 : I2 = I := f2.ieq
      have j2 : J2 = J := f2.jeq
      subst i2 j2
      have F2 := f.tr (f2.mo (la' := [11, 12, 17]) (by decide) (by decide) (by decide))
      have e22 : A2 17 = A1 17 := f2.a 17 (by decide)
      simp only [sX6_pass_45, sX6_pass_46, sX6_pass_49, wi_17, wg_17, ws_17, ww_17, wl_17, wn_17, am_rt_some, am_rt_void, am_rt_none, am_rt_ite, ↓reduceIte, if_true, if_false, and_self, true_and, and_true, true_or, or_true, Bool.false_eq_true, reduceCtorEq, am_nin (show k < 5 by omega) (show (5 : Nat) < 2147483648 by omega), am_ncl (show k < 2147483648 by omega), am_n1]
      refine ih (k + 1) _ (by omega) (by omega) (F2.ua (by decide)) (fun i hi => ?_)
      rw [am_u_at]
      by_cases y : i = k
      · subst y
        rw [upd_at, if_pos ⟨ha, by omega⟩]
      · rw [upd_ne y, e22, g i hi]
        have : (a ≤ i ∧ i < k) = (a ≤ i ∧ i < k + 1) := propext (by omega)
        simp only [this]
  simp only [eX6_pass, sX6_pass_0, sX6_pass_1]
  exact key (b + 1 - a) a A (by omega) (Nat.le_refl a) Fr.rf (fun i hi => by rw [if_neg (by omega)])
theorem c_pass15 {G : VF} {fi : Int32} (hG : cLaw G (A 8) (A 9) (A 10) (I 7 3)) : am_T (am_CL X (d + 4) mX6_pass [.ref 15, .int 0, .int 4, .ref 7, .int fi] (am_wd I A J)) (oU fun I' A' J' => Fr [(15, 2)] [11, 12, 17] [] I A J I' A' J' ∧ I' 15 2 = mn99 (I 15 2) ∧ ∀ i, i < 5 → A' 17 i = gT G (A 18 i) (A 17 i) (I 15 2) fi (nI i) (I 15 4)) :=
  am_T.monoU (c_passFor15 (a := 0) (b := 4) hG (by decide) (by decide)) fun I1 A1 J1 ⟨f, g1, g2⟩ => ⟨f, g1, fun i hi => by rw [g2 i hi, if_pos ⟨Nat.zero_le i, by omega⟩]⟩
theorem c_farFrom15 : am_CL X (d + 1) mX6_farFrom [.ref 15, .ref 14] (am_wd I A J) = some (some (.int (farF (A 17) (A 14) 5)), am_wd I A J) := by
  have key : ∀ (m k : Nat), k + m = 5 → am_EV X d mX6_farFrom 4 [.ref 15, .ref 14, .int (farF (A 17) (A 14) k), .int (nI k)] [] (am_wd I A J) = some (some (.int (farF (A 17) (A 14) 5)), am_wd I A J) := by
    intro m
    induction m with
    | zero =>
      intro k hk
      have h8 : k = 5 := by omega
      subst h8
      simp only [sX6_farFrom_4, sX6_farFrom_5, sX6_farFrom_6, sX6_farFrom_31, sX6_farFrom_32, am_rt_some, am_rt_void, am_rt_none, am_rt_ite, ↓reduceIte, if_true, if_false, and_self, true_and, and_true, true_or, or_true, Bool.false_eq_true, reduceCtorEq, show (nI 5 < 5) = False by decide]
    | succ m ih =>
      intro k hk
      have hlt : (nI k < 5) = True := by rw [am_nlit (x := 5) 5 rfl (show k < 2147483648 by omega) (by decide)]; exact eq_true (by omega)
      have nx := ih (k + 1) (by omega)
      rw [show farF (A 17) (A 14) (k + 1) = farF (A 17) (A 14) k + (if 0 ≤ A 17 k - A 14 k then A 17 k - A 14 k else 0 - (A 17 k - A 14 k)) from rfl] at nx
      rw [sX6_farFrom_4]
      simp only [sX6_farFrom_5, sX6_farFrom_6, sX6_farFrom_9, sX6_farFrom_10, sX6_farFrom_11, sX6_farFrom_14, sX6_farFrom_15, sX6_farFrom_16, sX6_farFrom_17, sX6_farFrom_18, sX6_farFrom_19, sX6_farFrom_20, sX6_farFrom_23, sX6_farFrom_24, sX6_farFrom_25, sX6_farFrom_28, wo_15, wf_15_0, wv_15_0, wf_15_1, wv_15_1, wf_15_2, wv_15_2, wp_15_2, wf_15_3, wv_15_3, wf_15_4, wv_15_4, wp_15_4, wi_17, wg_17, ws_17, ww_17, wl_17, wn_17, wi_14, wg_14, ws_14, ww_14, wl_14, wn_14, am_rt_some, am_rt_void, am_rt_none, am_rt_ite, ↓reduceIte, if_true, if_false, and_self, true_and, and_true, true_or, or_true, Bool.false_eq_true, reduceCtorEq, hlt, am_nin (show k < 5 by omega) (show (5 : Nat) < 2147483648 by omega), am_ncl (show k < 2147483648 by omega), am_n1]
      exact nx
  simp only [eX6_farFrom, sX6_farFrom_0, sX6_farFrom_1, sX6_farFrom_2, sX6_farFrom_3]
  exact key 5 0 rfl
theorem c_passFor24 {G : VF} {a b : Nat} {fi : Int32} (hG : cLaw G (A 8) (A 9) (A 10) (I 7 3)) (hab : a ≤ b) (hb : b < 5) : am_T (am_CL X (d + 4) mX6_pass [.ref 24, .int (nI a), .int (nI b), .ref 7, .int fi] (am_wd I A J)) (oU fun I' A' J' => Fr [(24, 2)] [11, 12, 26] [] I A J I' A' J' ∧ I' 24 2 = mn99 (I 24 2) ∧ ∀ i, i < 5 → A' 26 i = if a ≤ i ∧ i ≤ b then gT G (A 27 i) (A 26 i) (I 24 2) fi (nI i) (I 24 4) else A 26 i) := by
  have fin : ∀ (z : Value) (A1 : TI), Fr [(24, 2)] [11, 12, 26] [] I A J I A1 J → (∀ i, i < 5 → A1 26 i = if a ≤ i ∧ i ≤ b then gT G (A 27 i) (A 26 i) (I 24 2) fi (nI i) (I 24 4) else A 26 i) → am_T (am_EV X (d + 3) mX6_pass 52 [.ref 24, .int (nI a), .int (nI b), .ref 7, .int fi, z] [] (am_wd I A1 J)) (oU fun I' A' J' => Fr [(24, 2)] [11, 12, 26] [] I A J I' A' J' ∧ I' 24 2 = mn99 (I 24 2) ∧ ∀ i, i < 5 → A' 26 i = if a ≤ i ∧ i ≤ b then gT G (A 27 i) (A 26 i) (I 24 2) fi (nI i) (I 24 4) else A 26 i) := by
    intro z A1 f g
    simp only [sX6_pass_52, sX6_pass_53, sX6_pass_55, sX6_pass_56, sX6_pass_59, sX6_pass_60, sX6_pass_61, sX6_pass_64, sX6_pass_67, wo_24, wf_24_0, wv_24_0, wf_24_1, wv_24_1, wf_24_2, wv_24_2, wp_24_2, wf_24_3, wv_24_3, wf_24_4, wv_24_4, wp_24_4, am_rt_some, am_rt_void, am_rt_none, am_rt_ite, ↓reduceIte, if_true, if_false, and_self, true_and, and_true, true_or, or_true, Bool.false_eq_true, reduceCtorEq]
    exact am_T.ru ⟨f.ui (by decide), by rw [am_u2_at]; rfl, g⟩
  have key : ∀ (m k : Nat) (A1 : TI), k + m = b + 1 → a ≤ k → Fr [(24, 2)] [11, 12, 26] [] I A J I A1 J → (∀ i, i < 5 → A1 26 i = if a ≤ i ∧ i < k then gT G (A 27 i) (A 26 i) (I 24 2) fi (nI i) (I 24 4) else A 26 i) → am_T (am_EV X (d + 3) mX6_pass 3 [.ref 24, .int (nI a), .int (nI b), .ref 7, .int fi, .int (nI k)] [] (am_wd I A1 J)) (oU fun I' A' J' => Fr [(24, 2)] [11, 12, 26] [] I A J I' A' J' ∧ I' 24 2 = mn99 (I 24 2) ∧ ∀ i, i < 5 → A' 26 i = if a ≤ i ∧ i ≤ b then gT G (A 27 i) (A 26 i) (I 24 2) fi (nI i) (I 24 4) else A 26 i) := by
    intro m
    induction m with
    | zero =>
      intro k A1 hk ha f g
      have kb : k = b + 1 := by omega
      subst kb
      have lt : (nI b < nI (b + 1)) = True := eq_true (nI_lt (by omega) (by omega))
      simp only [sX6_pass_3, sX6_pass_5, sX6_pass_6, am_rt_some, am_rt_void, am_rt_none, am_rt_ite, ↓reduceIte, if_true, if_false, and_self, true_and, and_true, true_or, or_true, Bool.false_eq_true, reduceCtorEq, lt]
      refine fin _ A1 f (fun i hi => ?_)
      rw [g i hi]
      have : (a ≤ i ∧ i < b + 1) = (a ≤ i ∧ i ≤ b) := propext (by omega)
      simp only [this]
    | succ m ih =>
      intro k A1 hk ha f g
      have lt : (nI b < nI k) = False := by rw [am_nlt (show b < 2147483648 by omega) (show k < 2147483648 by omega)]; exact eq_false (by omega)
      have e1 : A1 27 = A 27 := f.a 27 (by decide)
      have e2 : A1 26 k = A 26 k := by rw [g k (by omega), if_neg (by omega)]
      rw [sX6_pass_3]
      simp only [sX6_pass_5, sX6_pass_6, sX6_pass_9, sX6_pass_10, sX6_pass_13, sX6_pass_15, sX6_pass_16, sX6_pass_17, sX6_pass_20, sX6_pass_22, sX6_pass_23, sX6_pass_24, sX6_pass_27, sX6_pass_29, sX6_pass_30, sX6_pass_31, sX6_pass_34, sX6_pass_36, sX6_pass_38, sX6_pass_39, wo_24, wf_24_0, wv_24_0, wf_24_1, wv_24_1, wf_24_2, wv_24_2, wp_24_2, wf_24_3, wv_24_3, wf_24_4, wv_24_4, wp_24_4, wi_26, wg_26, ws_26, ww_26, wl_26, wn_26, wi_27, wg_27, ws_27, ww_27, wl_27, wn_27, am_rt_some, am_rt_void, am_rt_none, am_rt_ite, ↓reduceIte, if_true, if_false, and_self, true_and, and_true, true_or, or_true, Bool.false_eq_true, reduceCtorEq, lt, am_nin (show k < 5 by omega) (show (5 : Nat) < 2147483648 by omega), am_ncl (show k < 2147483648 by omega), e1, e2]
      simp only [sX6_pass_42, wo_7, wf_7_0, wv_7_0, wf_7_1, wv_7_1, wf_7_2, wv_7_2, wf_7_3, wv_7_3, wp_7_3, wf_7_4, wv_7_4, wf_7_5, wv_7_5, am_rt_some, am_rt_void, am_rt_none, am_rt_ite, ↓reduceIte, if_true, if_false, and_self, true_and, and_true, true_or, or_true, Bool.false_eq_true, reduceCtorEq]
      have hG1 : cLaw G (A1 8) (A1 9) (A1 10) (I 7 3) := t_lac f (by decide) hG
      refine am_T.rtI (c_grown hG1) ?_
      intro I2 A2 J2 f2
      have i2 : I2 = I := f2.ieq
      have j2 : J2 = J := f2.jeq
      subst i2 j2
      have F2 := f.tr (f2.mo (la' := [11, 12, 26]) (by decide) (by decide) (by decide))
      have e22 : A2 26 = A1 26 := f2.a 26 (by decide)
      simp only [sX6_pass_45, sX6_pass_46, sX6_pass_49, wi_26, wg_26, ws_26, ww_26, wl_26, wn_26, am_rt_some, am_rt_void, am_rt_none, am_rt_ite, ↓reduceIte, if_true, if_false, and_self, true_and, and_true, true_or, or_true, Bool.false_eq_true, reduceCtorEq, am_nin (show k < 5 by omega) (show (5 : Nat) < 2147483648 by omega), am_ncl (show k < 2147483648 by omega), am_n1]
      refine ih (k + 1) _ (by omega) (by omega) (F2.ua (by decide)) (fun i hi => ?_)
      rw [am_u_at]
      by_cases y : i = k
      · subst y
        rw [upd_at, if_pos ⟨ha, by omega⟩]
      · rw [upd_ne y, e22, g i hi]
        have : (a ≤ i ∧ i < k) = (a ≤ i ∧ i < k + 1) := propext (by omega)
        simp only [this]
  simp only [eX6_pass, sX6_pass_0, sX6_pass_1]
  exact key (b + 1 - a) a A (by omega) (Nat.le_refl a) Fr.rf (fun i hi => by rw [if_neg (by omega)])
theorem c_pass24 {G : VF} {fi : Int32} (hG : cLaw G (A 8) (A 9) (A 10) (I 7 3)) : am_T (am_CL X (d + 4) mX6_pass [.ref 24, .int 0, .int 4, .ref 7, .int fi] (am_wd I A J)) (oU fun I' A' J' => Fr [(24, 2)] [11, 12, 26] [] I A J I' A' J' ∧ I' 24 2 = mn99 (I 24 2) ∧ ∀ i, i < 5 → A' 26 i = gT G (A 27 i) (A 26 i) (I 24 2) fi (nI i) (I 24 4)) :=
  am_T.monoU (c_passFor24 (a := 0) (b := 4) hG (by decide) (by decide)) fun I1 A1 J1 ⟨f, g1, g2⟩ => ⟨f, g1, fun i hi => by rw [g2 i hi, if_pos ⟨Nat.zero_le i, by omega⟩]⟩
theorem c_farFrom24 : am_CL X (d + 1) mX6_farFrom [.ref 24, .ref 14] (am_wd I A J) = some (some (.int (farF (A 26) (A 14) 5)), am_wd I A J) := by
  have key : ∀ (m k : Nat), k + m = 5 → am_EV X d mX6_farFrom 4 [.ref 24, .ref 14, .int (farF (A 26) (A 14) k), .int (nI k)] [] (am_wd I A J) = some (some (.int (farF (A 26) (A 14) 5)), am_wd I A J) := by
    intro m
    induction m with
    | zero =>
      intro k hk
      have h8 : k = 5 := by omega
      subst h8
      simp only [sX6_farFrom_4, sX6_farFrom_5, sX6_farFrom_6, sX6_farFrom_31, sX6_farFrom_32, am_rt_some, am_rt_void, am_rt_none, am_rt_ite, ↓reduceIte, if_true, if_false, and_self, true_and, and_true, true_or, or_true, Bool.false_eq_true, reduceCtorEq, show (nI 5 < 5) = False by decide]
    | succ m ih =>
      intro k hk
      have hlt : (nI k < 5) = True := by rw [am_nlit (x := 5) 5 rfl (show k < 2147483648 by omega) (by decide)]; exact eq_true (by omega)
      have nx := ih (k + 1) (by omega)
      rw [show farF (A 26) (A 14) (k + 1) = farF (A 26) (A 14) k + (if 0 ≤ A 26 k - A 14 k then A 26 k - A 14 k else 0 - (A 26 k - A 14 k)) from rfl] at nx
      rw [sX6_farFrom_4]
      simp only [sX6_farFrom_5, sX6_farFrom_6, sX6_farFrom_9, sX6_farFrom_10, sX6_farFrom_11, sX6_farFrom_14, sX6_farFrom_15, sX6_farFrom_16, sX6_farFrom_17, sX6_farFrom_18, sX6_farFrom_19, sX6_farFrom_20, sX6_farFrom_23, sX6_farFrom_24, sX6_farFrom_25, sX6_farFrom_28, wo_24, wf_24_0, wv_24_0, wf_24_1, wv_24_1, wf_24_2, wv_24_2, wp_24_2, wf_24_3, wv_24_3, wf_24_4, wv_24_4, wp_24_4, wi_26, wg_26, ws_26, ww_26, wl_26, wn_26, wi_14, wg_14, ws_14, ww_14, wl_14, wn_14, am_rt_some, am_rt_void, am_rt_none, am_rt_ite, ↓reduceIte, if_true, if_false, and_self, true_and, and_true, true_or, or_true, Bool.false_eq_true, reduceCtorEq, hlt, am_nin (show k < 5 by omega) (show (5 : Nat) < 2147483648 by omega), am_ncl (show k < 2147483648 by omega), am_n1]
      exact nx
  simp only [eX6_farFrom, sX6_farFrom_0, sX6_farFrom_1, sX6_farFrom_2, sX6_farFrom_3]
  exact key 5 0 rfl
theorem c_passFor28 {G : VF} {a b : Nat} {fi : Int32} (hG : cLaw G (A 8) (A 9) (A 10) (I 7 3)) (hab : a ≤ b) (hb : b < 5) : am_T (am_CL X (d + 4) mX6_pass [.ref 28, .int (nI a), .int (nI b), .ref 7, .int fi] (am_wd I A J)) (oU fun I' A' J' => Fr [(28, 2)] [11, 12, 30] [] I A J I' A' J' ∧ I' 28 2 = mn99 (I 28 2) ∧ ∀ i, i < 5 → A' 30 i = if a ≤ i ∧ i ≤ b then gT G (A 31 i) (A 30 i) (I 28 2) fi (nI i) (I 28 4) else A 30 i) := by
  have fin : ∀ (z : Value) (A1 : TI), Fr [(28, 2)] [11, 12, 30] [] I A J I A1 J → (∀ i, i < 5 → A1 30 i = if a ≤ i ∧ i ≤ b then gT G (A 31 i) (A 30 i) (I 28 2) fi (nI i) (I 28 4) else A 30 i) → am_T (am_EV X (d + 3) mX6_pass 52 [.ref 28, .int (nI a), .int (nI b), .ref 7, .int fi, z] [] (am_wd I A1 J)) (oU fun I' A' J' => Fr [(28, 2)] [11, 12, 30] [] I A J I' A' J' ∧ I' 28 2 = mn99 (I 28 2) ∧ ∀ i, i < 5 → A' 30 i = if a ≤ i ∧ i ≤ b then gT G (A 31 i) (A 30 i) (I 28 2) fi (nI i) (I 28 4) else A 30 i) := by
    intro z A1 f g
    simp only [sX6_pass_52, sX6_pass_53, sX6_pass_55, sX6_pass_56, sX6_pass_59, sX6_pass_60, sX6_pass_61, sX6_pass_64, sX6_pass_67, wo_28, wf_28_0, wv_28_0, wf_28_1, wv_28_1, wf_28_2, wv_28_2, wp_28_2, wf_28_3, wv_28_3, wf_28_4, wv_28_4, wp_28_4, am_rt_some, am_rt_void, am_rt_none, am_rt_ite, ↓reduceIte, if_true, if_false, and_self, true_and, and_true, true_or, or_true, Bool.false_eq_true, reduceCtorEq]
    exact am_T.ru ⟨f.ui (by decide), by rw [am_u2_at]; rfl, g⟩
  have key : ∀ (m k : Nat) (A1 : TI), k + m = b + 1 → a ≤ k → Fr [(28, 2)] [11, 12, 30] [] I A J I A1 J → (∀ i, i < 5 → A1 30 i = if a ≤ i ∧ i < k then gT G (A 31 i) (A 30 i) (I 28 2) fi (nI i) (I 28 4) else A 30 i) → am_T (am_EV X (d + 3) mX6_pass 3 [.ref 28, .int (nI a), .int (nI b), .ref 7, .int fi, .int (nI k)] [] (am_wd I A1 J)) (oU fun I' A' J' => Fr [(28, 2)] [11, 12, 30] [] I A J I' A' J' ∧ I' 28 2 = mn99 (I 28 2) ∧ ∀ i, i < 5 → A' 30 i = if a ≤ i ∧ i ≤ b then gT G (A 31 i) (A 30 i) (I 28 2) fi (nI i) (I 28 4) else A 30 i) := by
    intro m
    induction m with
    | zero =>
      intro k A1 hk ha f g
      have kb : k = b + 1 := by omega
      subst kb
      have lt : (nI b < nI (b + 1)) = True := eq_true (nI_lt (by omega) (by omega))
      simp only [sX6_pass_3, sX6_pass_5, sX6_pass_6, am_rt_some, am_rt_void, am_rt_none, am_rt_ite, ↓reduceIte, if_true, if_false, and_self, true_and, and_true, true_or, or_true, Bool.false_eq_true, reduceCtorEq, lt]
      refine fin _ A1 f (fun i hi => ?_)
      rw [g i hi]
      have : (a ≤ i ∧ i < b + 1) = (a ≤ i ∧ i ≤ b) := propext (by omega)
      simp only [this]
    | succ m ih =>
      intro k A1 hk ha f g
      have lt : (nI b < nI k) = False := by rw [am_nlt (show b < 2147483648 by omega) (show k < 2147483648 by omega)]; exact eq_false (by omega)
      have e1 : A1 31 = A 31 := f.a 31 (by decide)
      have e2 : A1 30 k = A 30 k := by rw [g k (by omega), if_neg (by omega)]
      rw [sX6_pass_3]
      simp only [sX6_pass_5, sX6_pass_6, sX6_pass_9, sX6_pass_10, sX6_pass_13, sX6_pass_15, sX6_pass_16, sX6_pass_17, sX6_pass_20, sX6_pass_22, sX6_pass_23, sX6_pass_24, sX6_pass_27, sX6_pass_29, sX6_pass_30, sX6_pass_31, sX6_pass_34, sX6_pass_36, sX6_pass_38, sX6_pass_39, wo_28, wf_28_0, wv_28_0, wf_28_1, wv_28_1, wf_28_2, wv_28_2, wp_28_2, wf_28_3, wv_28_3, wf_28_4, wv_28_4, wp_28_4, wi_30, wg_30, ws_30, ww_30, wl_30, wn_30, wi_31, wg_31, ws_31, ww_31, wl_31, wn_31, am_rt_some, am_rt_void, am_rt_none, am_rt_ite, ↓reduceIte, if_true, if_false, and_self, true_and, and_true, true_or, or_true, Bool.false_eq_true, reduceCtorEq, lt, am_nin (show k < 5 by omega) (show (5 : Nat) < 2147483648 by omega), am_ncl (show k < 2147483648 by omega), e1, e2]
      simp only [sX6_pass_42, wo_7, wf_7_0, wv_7_0, wf_7_1, wv_7_1, wf_7_2, wv_7_2, wf_7_3, wv_7_3, wp_7_3, wf_7_4, wv_7_4, wf_7_5, wv_7_5, am_rt_some, am_rt_void, am_rt_none, am_rt_ite, ↓reduceIte, if_true, if_false, and_self, true_and, and_true, true_or, or_true, Bool.false_eq_true, reduceCtorEq]
      have hG1 : cLaw G (A1 8) (A1 9) (A1 10) (I 7 3) := t_lac f (by decide) hG
      refine am_T.rtI (c_grown hG1) ?_
      intro I2 A2 J2 f2
      have i2 : I2 = I := f2.ieq
      have j2 : J2 = J := f2.jeq
      subst i2 j2
      have F2 := f.tr (f2.mo (la' := [11, 12, 30]) (by decide) (by decide) (by decide))
      have e22 : A2 30 = A1 30 := f2.a 30 (by decide)
      simp only [sX6_pass_45, sX6_pass_46, sX6_pass_49, wi_30, wg_30, ws_30, ww_30, wl_30, wn_30, am_rt_some, am_rt_void, am_rt_none, am_rt_ite, ↓reduceIte, if_true, if_false, and_self, true_and, and_true, true_or, or_true, Bool.false_eq_true, reduceCtorEq, am_nin (show k < 5 by omega) (show (5 : Nat) < 2147483648 by omega), am_ncl (show k < 2147483648 by omega), am_n1]
      refine ih (k + 1) _ (by omega) (by omega) (F2.ua (by decide)) (fun i hi => ?_)
      rw [am_u_at]
      by_cases y : i = k
      · subst y
        rw [upd_at, if_pos ⟨ha, by omega⟩]
      · rw [upd_ne y, e22, g i hi]
        have : (a ≤ i ∧ i < k) = (a ≤ i ∧ i < k + 1) := propext (by omega)
        simp only [this]
  simp only [eX6_pass, sX6_pass_0, sX6_pass_1]
  exact key (b + 1 - a) a A (by omega) (Nat.le_refl a) Fr.rf (fun i hi => by rw [if_neg (by omega)])
theorem c_pass28 {G : VF} {fi : Int32} (hG : cLaw G (A 8) (A 9) (A 10) (I 7 3)) : am_T (am_CL X (d + 4) mX6_pass [.ref 28, .int 0, .int 4, .ref 7, .int fi] (am_wd I A J)) (oU fun I' A' J' => Fr [(28, 2)] [11, 12, 30] [] I A J I' A' J' ∧ I' 28 2 = mn99 (I 28 2) ∧ ∀ i, i < 5 → A' 30 i = gT G (A 31 i) (A 30 i) (I 28 2) fi (nI i) (I 28 4)) :=
  am_T.monoU (c_passFor28 (a := 0) (b := 4) hG (by decide) (by decide)) fun I1 A1 J1 ⟨f, g1, g2⟩ => ⟨f, g1, fun i hi => by rw [g2 i hi, if_pos ⟨Nat.zero_le i, by omega⟩]⟩
theorem c_farFrom28 : am_CL X (d + 1) mX6_farFrom [.ref 28, .ref 14] (am_wd I A J) = some (some (.int (farF (A 30) (A 14) 5)), am_wd I A J) := by
  have key : ∀ (m k : Nat), k + m = 5 → am_EV X d mX6_farFrom 4 [.ref 28, .ref 14, .int (farF (A 30) (A 14) k), .int (nI k)] [] (am_wd I A J) = some (some (.int (farF (A 30) (A 14) 5)), am_wd I A J) := by
    intro m
    induction m with
    | zero =>
      intro k hk
      have h8 : k = 5 := by omega
      subst h8
      simp only [sX6_farFrom_4, sX6_farFrom_5, sX6_farFrom_6, sX6_farFrom_31, sX6_farFrom_32, am_rt_some, am_rt_void, am_rt_none, am_rt_ite, ↓reduceIte, if_true, if_false, and_self, true_and, and_true, true_or, or_true, Bool.false_eq_true, reduceCtorEq, show (nI 5 < 5) = False by decide]
    | succ m ih =>
      intro k hk
      have hlt : (nI k < 5) = True := by rw [am_nlit (x := 5) 5 rfl (show k < 2147483648 by omega) (by decide)]; exact eq_true (by omega)
      have nx := ih (k + 1) (by omega)
      rw [show farF (A 30) (A 14) (k + 1) = farF (A 30) (A 14) k + (if 0 ≤ A 30 k - A 14 k then A 30 k - A 14 k else 0 - (A 30 k - A 14 k)) from rfl] at nx
      rw [sX6_farFrom_4]
      simp only [sX6_farFrom_5, sX6_farFrom_6, sX6_farFrom_9, sX6_farFrom_10, sX6_farFrom_11, sX6_farFrom_14, sX6_farFrom_15, sX6_farFrom_16, sX6_farFrom_17, sX6_farFrom_18, sX6_farFrom_19, sX6_farFrom_20, sX6_farFrom_23, sX6_farFrom_24, sX6_farFrom_25, sX6_farFrom_28, wo_28, wf_28_0, wv_28_0, wf_28_1, wv_28_1, wf_28_2, wv_28_2, wp_28_2, wf_28_3, wv_28_3, wf_28_4, wv_28_4, wp_28_4, wi_30, wg_30, ws_30, ww_30, wl_30, wn_30, wi_14, wg_14, ws_14, ww_14, wl_14, wn_14, am_rt_some, am_rt_void, am_rt_none, am_rt_ite, ↓reduceIte, if_true, if_false, and_self, true_and, and_true, true_or, or_true, Bool.false_eq_true, reduceCtorEq, hlt, am_nin (show k < 5 by omega) (show (5 : Nat) < 2147483648 by omega), am_ncl (show k < 2147483648 by omega), am_n1]
      exact nx
  simp only [eX6_farFrom, sX6_farFrom_0, sX6_farFrom_1, sX6_farFrom_2, sX6_farFrom_3]
  exact key 5 0 rfl
theorem c_passFor32 {G : VF} {a b : Nat} {fi : Int32} (hG : cLaw G (A 8) (A 9) (A 10) (I 7 3)) (hab : a ≤ b) (hb : b < 5) : am_T (am_CL X (d + 4) mX6_pass [.ref 32, .int (nI a), .int (nI b), .ref 7, .int fi] (am_wd I A J)) (oU fun I' A' J' => Fr [(32, 2)] [11, 12, 34] [] I A J I' A' J' ∧ I' 32 2 = mn99 (I 32 2) ∧ ∀ i, i < 5 → A' 34 i = if a ≤ i ∧ i ≤ b then gT G (A 35 i) (A 34 i) (I 32 2) fi (nI i) (I 32 4) else A 34 i) := by
  have fin : ∀ (z : Value) (A1 : TI), Fr [(32, 2)] [11, 12, 34] [] I A J I A1 J → (∀ i, i < 5 → A1 34 i = if a ≤ i ∧ i ≤ b then gT G (A 35 i) (A 34 i) (I 32 2) fi (nI i) (I 32 4) else A 34 i) → am_T (am_EV X (d + 3) mX6_pass 52 [.ref 32, .int (nI a), .int (nI b), .ref 7, .int fi, z] [] (am_wd I A1 J)) (oU fun I' A' J' => Fr [(32, 2)] [11, 12, 34] [] I A J I' A' J' ∧ I' 32 2 = mn99 (I 32 2) ∧ ∀ i, i < 5 → A' 34 i = if a ≤ i ∧ i ≤ b then gT G (A 35 i) (A 34 i) (I 32 2) fi (nI i) (I 32 4) else A 34 i) := by
    intro z A1 f g
    simp only [sX6_pass_52, sX6_pass_53, sX6_pass_55, sX6_pass_56, sX6_pass_59, sX6_pass_60, sX6_pass_61, sX6_pass_64, sX6_pass_67, wo_32, wf_32_0, wv_32_0, wf_32_1, wv_32_1, wf_32_2, wv_32_2, wp_32_2, wf_32_3, wv_32_3, wf_32_4, wv_32_4, wp_32_4, am_rt_some, am_rt_void, am_rt_none, am_rt_ite, ↓reduceIte, if_true, if_false, and_self, true_and, and_true, true_or, or_true, Bool.false_eq_true, reduceCtorEq]
    exact am_T.ru ⟨f.ui (by decide), by rw [am_u2_at]; rfl, g⟩
  have key : ∀ (m k : Nat) (A1 : TI), k + m = b + 1 → a ≤ k → Fr [(32, 2)] [11, 12, 34] [] I A J I A1 J → (∀ i, i < 5 → A1 34 i = if a ≤ i ∧ i < k then gT G (A 35 i) (A 34 i) (I 32 2) fi (nI i) (I 32 4) else A 34 i) → am_T (am_EV X (d + 3) mX6_pass 3 [.ref 32, .int (nI a), .int (nI b), .ref 7, .int fi, .int (nI k)] [] (am_wd I A1 J)) (oU fun I' A' J' => Fr [(32, 2)] [11, 12, 34] [] I A J I' A' J' ∧ I' 32 2 = mn99 (I 32 2) ∧ ∀ i, i < 5 → A' 34 i = if a ≤ i ∧ i ≤ b then gT G (A 35 i) (A 34 i) (I 32 2) fi (nI i) (I 32 4) else A 34 i) := by
    intro m
    induction m with
    | zero =>
      intro k A1 hk ha f g
      have kb : k = b + 1 := by omega
      subst kb
      have lt : (nI b < nI (b + 1)) = True := eq_true (nI_lt (by omega) (by omega))
      simp only [sX6_pass_3, sX6_pass_5, sX6_pass_6, am_rt_some, am_rt_void, am_rt_none, am_rt_ite, ↓reduceIte, if_true, if_false, and_self, true_and, and_true, true_or, or_true, Bool.false_eq_true, reduceCtorEq, lt]
      refine fin _ A1 f (fun i hi => ?_)
      rw [g i hi]
      have : (a ≤ i ∧ i < b + 1) = (a ≤ i ∧ i ≤ b) := propext (by omega)
      simp only [this]
    | succ m ih =>
      intro k A1 hk ha f g
      have lt : (nI b < nI k) = False := by rw [am_nlt (show b < 2147483648 by omega) (show k < 2147483648 by omega)]; exact eq_false (by omega)
      have e1 : A1 35 = A 35 := f.a 35 (by decide)
      have e2 : A1 34 k = A 34 k := by rw [g k (by omega), if_neg (by omega)]
      rw [sX6_pass_3]
      simp only [sX6_pass_5, sX6_pass_6, sX6_pass_9, sX6_pass_10, sX6_pass_13, sX6_pass_15, sX6_pass_16, sX6_pass_17, sX6_pass_20, sX6_pass_22, sX6_pass_23, sX6_pass_24, sX6_pass_27, sX6_pass_29, sX6_pass_30, sX6_pass_31, sX6_pass_34, sX6_pass_36, sX6_pass_38, sX6_pass_39, wo_32, wf_32_0, wv_32_0, wf_32_1, wv_32_1, wf_32_2, wv_32_2, wp_32_2, wf_32_3, wv_32_3, wf_32_4, wv_32_4, wp_32_4, wi_34, wg_34, ws_34, ww_34, wl_34, wn_34, wi_35, wg_35, ws_35, ww_35, wl_35, wn_35, am_rt_some, am_rt_void, am_rt_none, am_rt_ite, ↓reduceIte, if_true, if_false, and_self, true_and, and_true, true_or, or_true, Bool.false_eq_true, reduceCtorEq, lt, am_nin (show k < 5 by omega) (show (5 : Nat) < 2147483648 by omega), am_ncl (show k < 2147483648 by omega), e1, e2]
      simp only [sX6_pass_42, wo_7, wf_7_0, wv_7_0, wf_7_1, wv_7_1, wf_7_2, wv_7_2, wf_7_3, wv_7_3, wp_7_3, wf_7_4, wv_7_4, wf_7_5, wv_7_5, am_rt_some, am_rt_void, am_rt_none, am_rt_ite, ↓reduceIte, if_true, if_false, and_self, true_and, and_true, true_or, or_true, Bool.false_eq_true, reduceCtorEq]
      have hG1 : cLaw G (A1 8) (A1 9) (A1 10) (I 7 3) := t_lac f (by decide) hG
      refine am_T.rtI (c_grown hG1) ?_
      intro I2 A2 J2 f2
      have i2 : I2 = I := f2.ieq
      have j2 : J2 = J := f2.jeq
      subst i2 j2
      have F2 := f.tr (f2.mo (la' := [11, 12, 34]) (by decide) (by decide) (by decide))
      have e22 : A2 34 = A1 34 := f2.a 34 (by decide)
      simp only [sX6_pass_45, sX6_pass_46, sX6_pass_49, wi_34, wg_34, ws_34, ww_34, wl_34, wn_34, am_rt_some, am_rt_void, am_rt_none, am_rt_ite, ↓reduceIte, if_true, if_false, and_self, true_and, and_true, true_or, or_true, Bool.false_eq_true, reduceCtorEq, am_nin (show k < 5 by omega) (show (5 : Nat) < 2147483648 by omega), am_ncl (show k < 2147483648 by omega), am_n1]
      refine ih (k + 1) _ (by omega) (by omega) (F2.ua (by decide)) (fun i hi => ?_)
      rw [am_u_at]
      by_cases y : i = k
      · subst y
        rw [upd_at, if_pos ⟨ha, by omega⟩]
      · rw [upd_ne y, e22, g i hi]
        have : (a ≤ i ∧ i < k) = (a ≤ i ∧ i < k + 1) := propext (by omega)
        simp only [this]
  simp only [eX6_pass, sX6_pass_0, sX6_pass_1]
  exact key (b + 1 - a) a A (by omega) (Nat.le_refl a) Fr.rf (fun i hi => by rw [if_neg (by omega)])
theorem c_pass32 {G : VF} {fi : Int32} (hG : cLaw G (A 8) (A 9) (A 10) (I 7 3)) : am_T (am_CL X (d + 4) mX6_pass [.ref 32, .int 0, .int 4, .ref 7, .int fi] (am_wd I A J)) (oU fun I' A' J' => Fr [(32, 2)] [11, 12, 34] [] I A J I' A' J' ∧ I' 32 2 = mn99 (I 32 2) ∧ ∀ i, i < 5 → A' 34 i = gT G (A 35 i) (A 34 i) (I 32 2) fi (nI i) (I 32 4)) :=
  am_T.monoU (c_passFor32 (a := 0) (b := 4) hG (by decide) (by decide)) fun I1 A1 J1 ⟨f, g1, g2⟩ => ⟨f, g1, fun i hi => by rw [g2 i hi, if_pos ⟨Nat.zero_le i, by omega⟩]⟩
theorem c_farFrom32 : am_CL X (d + 1) mX6_farFrom [.ref 32, .ref 14] (am_wd I A J) = some (some (.int (farF (A 34) (A 14) 5)), am_wd I A J) := by
  have key : ∀ (m k : Nat), k + m = 5 → am_EV X d mX6_farFrom 4 [.ref 32, .ref 14, .int (farF (A 34) (A 14) k), .int (nI k)] [] (am_wd I A J) = some (some (.int (farF (A 34) (A 14) 5)), am_wd I A J) := by
    intro m
    induction m with
    | zero =>
      intro k hk
      have h8 : k = 5 := by omega
      subst h8
      simp only [sX6_farFrom_4, sX6_farFrom_5, sX6_farFrom_6, sX6_farFrom_31, sX6_farFrom_32, am_rt_some, am_rt_void, am_rt_none, am_rt_ite, ↓reduceIte, if_true, if_false, and_self, true_and, and_true, true_or, or_true, Bool.false_eq_true, reduceCtorEq, show (nI 5 < 5) = False by decide]
    | succ m ih =>
      intro k hk
      have hlt : (nI k < 5) = True := by rw [am_nlit (x := 5) 5 rfl (show k < 2147483648 by omega) (by decide)]; exact eq_true (by omega)
      have nx := ih (k + 1) (by omega)
      rw [show farF (A 34) (A 14) (k + 1) = farF (A 34) (A 14) k + (if 0 ≤ A 34 k - A 14 k then A 34 k - A 14 k else 0 - (A 34 k - A 14 k)) from rfl] at nx
      rw [sX6_farFrom_4]
      simp only [sX6_farFrom_5, sX6_farFrom_6, sX6_farFrom_9, sX6_farFrom_10, sX6_farFrom_11, sX6_farFrom_14, sX6_farFrom_15, sX6_farFrom_16, sX6_farFrom_17, sX6_farFrom_18, sX6_farFrom_19, sX6_farFrom_20, sX6_farFrom_23, sX6_farFrom_24, sX6_farFrom_25, sX6_farFrom_28, wo_32, wf_32_0, wv_32_0, wf_32_1, wv_32_1, wf_32_2, wv_32_2, wp_32_2, wf_32_3, wv_32_3, wf_32_4, wv_32_4, wp_32_4, wi_34, wg_34, ws_34, ww_34, wl_34, wn_34, wi_14, wg_14, ws_14, ww_14, wl_14, wn_14, am_rt_some, am_rt_void, am_rt_none, am_rt_ite, ↓reduceIte, if_true, if_false, and_self, true_and, and_true, true_or, or_true, Bool.false_eq_true, reduceCtorEq, hlt, am_nin (show k < 5 by omega) (show (5 : Nat) < 2147483648 by omega), am_ncl (show k < 2147483648 by omega), am_n1]
      exact nx
  simp only [eX6_farFrom, sX6_farFrom_0, sX6_farFrom_1, sX6_farFrom_2, sX6_farFrom_3]
  exact key 5 0 rfl
theorem c_passFor49 {G : VF} {a b : Nat} {fi : Int32} (hG : cLaw G (A 8) (A 9) (A 10) (I 7 3)) (hab : a ≤ b) (hb : b < 5) : am_T (am_CL X (d + 4) mX6_pass [.ref 49, .int (nI a), .int (nI b), .ref 7, .int fi] (am_wd I A J)) (oU fun I' A' J' => Fr [(49, 2)] [11, 12, 51] [] I A J I' A' J' ∧ I' 49 2 = mn99 (I 49 2) ∧ ∀ i, i < 5 → A' 51 i = if a ≤ i ∧ i ≤ b then gT G (A 52 i) (A 51 i) (I 49 2) fi (nI i) (I 49 4) else A 51 i) := by
  have fin : ∀ (z : Value) (A1 : TI), Fr [(49, 2)] [11, 12, 51] [] I A J I A1 J → (∀ i, i < 5 → A1 51 i = if a ≤ i ∧ i ≤ b then gT G (A 52 i) (A 51 i) (I 49 2) fi (nI i) (I 49 4) else A 51 i) → am_T (am_EV X (d + 3) mX6_pass 52 [.ref 49, .int (nI a), .int (nI b), .ref 7, .int fi, z] [] (am_wd I A1 J)) (oU fun I' A' J' => Fr [(49, 2)] [11, 12, 51] [] I A J I' A' J' ∧ I' 49 2 = mn99 (I 49 2) ∧ ∀ i, i < 5 → A' 51 i = if a ≤ i ∧ i ≤ b then gT G (A 52 i) (A 51 i) (I 49 2) fi (nI i) (I 49 4) else A 51 i) := by
    intro z A1 f g
    simp only [sX6_pass_52, sX6_pass_53, sX6_pass_55, sX6_pass_56, sX6_pass_59, sX6_pass_60, sX6_pass_61, sX6_pass_64, sX6_pass_67, wo_49, wf_49_0, wv_49_0, wf_49_1, wv_49_1, wf_49_2, wv_49_2, wp_49_2, wf_49_3, wv_49_3, wf_49_4, wv_49_4, wp_49_4, am_rt_some, am_rt_void, am_rt_none, am_rt_ite, ↓reduceIte, if_true, if_false, and_self, true_and, and_true, true_or, or_true, Bool.false_eq_true, reduceCtorEq]
    exact am_T.ru ⟨f.ui (by decide), by rw [am_u2_at]; rfl, g⟩
  have key : ∀ (m k : Nat) (A1 : TI), k + m = b + 1 → a ≤ k → Fr [(49, 2)] [11, 12, 51] [] I A J I A1 J → (∀ i, i < 5 → A1 51 i = if a ≤ i ∧ i < k then gT G (A 52 i) (A 51 i) (I 49 2) fi (nI i) (I 49 4) else A 51 i) → am_T (am_EV X (d + 3) mX6_pass 3 [.ref 49, .int (nI a), .int (nI b), .ref 7, .int fi, .int (nI k)] [] (am_wd I A1 J)) (oU fun I' A' J' => Fr [(49, 2)] [11, 12, 51] [] I A J I' A' J' ∧ I' 49 2 = mn99 (I 49 2) ∧ ∀ i, i < 5 → A' 51 i = if a ≤ i ∧ i ≤ b then gT G (A 52 i) (A 51 i) (I 49 2) fi (nI i) (I 49 4) else A 51 i) := by
    intro m
    induction m with
    | zero =>
      intro k A1 hk ha f g
      have kb : k = b + 1 := by omega
      subst kb
      have lt : (nI b < nI (b + 1)) = True := eq_true (nI_lt (by omega) (by omega))
      simp only [sX6_pass_3, sX6_pass_5, sX6_pass_6, am_rt_some, am_rt_void, am_rt_none, am_rt_ite, ↓reduceIte, if_true, if_false, and_self, true_and, and_true, true_or, or_true, Bool.false_eq_true, reduceCtorEq, lt]
      refine fin _ A1 f (fun i hi => ?_)
      rw [g i hi]
      have : (a ≤ i ∧ i < b + 1) = (a ≤ i ∧ i ≤ b) := propext (by omega)
      simp only [this]
    | succ m ih =>
      intro k A1 hk ha f g
      have lt : (nI b < nI k) = False := by rw [am_nlt (show b < 2147483648 by omega) (show k < 2147483648 by omega)]; exact eq_false (by omega)
      have e1 : A1 52 = A 52 := f.a 52 (by decide)
      have e2 : A1 51 k = A 51 k := by rw [g k (by omega), if_neg (by omega)]
      rw [sX6_pass_3]
      simp only [sX6_pass_5, sX6_pass_6, sX6_pass_9, sX6_pass_10, sX6_pass_13, sX6_pass_15, sX6_pass_16, sX6_pass_17, sX6_pass_20, sX6_pass_22, sX6_pass_23, sX6_pass_24, sX6_pass_27, sX6_pass_29, sX6_pass_30, sX6_pass_31, sX6_pass_34, sX6_pass_36, sX6_pass_38, sX6_pass_39, wo_49, wf_49_0, wv_49_0, wf_49_1, wv_49_1, wf_49_2, wv_49_2, wp_49_2, wf_49_3, wv_49_3, wf_49_4, wv_49_4, wp_49_4, wi_51, wg_51, ws_51, ww_51, wl_51, wn_51, wi_52, wg_52, ws_52, ww_52, wl_52, wn_52, am_rt_some, am_rt_void, am_rt_none, am_rt_ite, ↓reduceIte, if_true, if_false, and_self, true_and, and_true, true_or, or_true, Bool.false_eq_true, reduceCtorEq, lt, am_nin (show k < 5 by omega) (show (5 : Nat) < 2147483648 by omega), am_ncl (show k < 2147483648 by omega), e1, e2]
      simp only [sX6_pass_42, wo_7, wf_7_0, wv_7_0, wf_7_1, wv_7_1, wf_7_2, wv_7_2, wf_7_3, wv_7_3, wp_7_3, wf_7_4, wv_7_4, wf_7_5, wv_7_5, am_rt_some, am_rt_void, am_rt_none, am_rt_ite, ↓reduceIte, if_true, if_false, and_self, true_and, and_true, true_or, or_true, Bool.false_eq_true, reduceCtorEq]
      have hG1 : cLaw G (A1 8) (A1 9) (A1 10) (I 7 3) := t_lac f (by decide) hG
      refine am_T.rtI (c_grown hG1) ?_
      intro I2 A2 J2 f2
      have i2 : I2 = I := f2.ieq
      have j2 : J2 = J := f2.jeq
      subst i2 j2
      have F2 := f.tr (f2.mo (la' := [11, 12, 51]) (by decide) (by decide) (by decide))
      have e22 : A2 51 = A1 51 := f2.a 51 (by decide)
      simp only [sX6_pass_45, sX6_pass_46, sX6_pass_49, wi_51, wg_51, ws_51, ww_51, wl_51, wn_51, am_rt_some, am_rt_void, am_rt_none, am_rt_ite, ↓reduceIte, if_true, if_false, and_self, true_and, and_true, true_or, or_true, Bool.false_eq_true, reduceCtorEq, am_nin (show k < 5 by omega) (show (5 : Nat) < 2147483648 by omega), am_ncl (show k < 2147483648 by omega), am_n1]
      refine ih (k + 1) _ (by omega) (by omega) (F2.ua (by decide)) (fun i hi => ?_)
      rw [am_u_at]
      by_cases y : i = k
      · subst y
        rw [upd_at, if_pos ⟨ha, by omega⟩]
      · rw [upd_ne y, e22, g i hi]
        have : (a ≤ i ∧ i < k) = (a ≤ i ∧ i < k + 1) := propext (by omega)
        simp only [this]
  simp only [eX6_pass, sX6_pass_0, sX6_pass_1]
  exact key (b + 1 - a) a A (by omega) (Nat.le_refl a) Fr.rf (fun i hi => by rw [if_neg (by omega)])
theorem c_pass49 {G : VF} {fi : Int32} (hG : cLaw G (A 8) (A 9) (A 10) (I 7 3)) : am_T (am_CL X (d + 4) mX6_pass [.ref 49, .int 0, .int 4, .ref 7, .int fi] (am_wd I A J)) (oU fun I' A' J' => Fr [(49, 2)] [11, 12, 51] [] I A J I' A' J' ∧ I' 49 2 = mn99 (I 49 2) ∧ ∀ i, i < 5 → A' 51 i = gT G (A 52 i) (A 51 i) (I 49 2) fi (nI i) (I 49 4)) :=
  am_T.monoU (c_passFor49 (a := 0) (b := 4) hG (by decide) (by decide)) fun I1 A1 J1 ⟨f, g1, g2⟩ => ⟨f, g1, fun i hi => by rw [g2 i hi, if_pos ⟨Nat.zero_le i, by omega⟩]⟩
theorem c_farFrom49 : am_CL X (d + 1) mX6_farFrom [.ref 49, .ref 14] (am_wd I A J) = some (some (.int (farF (A 51) (A 14) 5)), am_wd I A J) := by
  have key : ∀ (m k : Nat), k + m = 5 → am_EV X d mX6_farFrom 4 [.ref 49, .ref 14, .int (farF (A 51) (A 14) k), .int (nI k)] [] (am_wd I A J) = some (some (.int (farF (A 51) (A 14) 5)), am_wd I A J) := by
    intro m
    induction m with
    | zero =>
      intro k hk
      have h8 : k = 5 := by omega
      subst h8
      simp only [sX6_farFrom_4, sX6_farFrom_5, sX6_farFrom_6, sX6_farFrom_31, sX6_farFrom_32, am_rt_some, am_rt_void, am_rt_none, am_rt_ite, ↓reduceIte, if_true, if_false, and_self, true_and, and_true, true_or, or_true, Bool.false_eq_true, reduceCtorEq, show (nI 5 < 5) = False by decide]
    | succ m ih =>
      intro k hk
      have hlt : (nI k < 5) = True := by rw [am_nlit (x := 5) 5 rfl (show k < 2147483648 by omega) (by decide)]; exact eq_true (by omega)
      have nx := ih (k + 1) (by omega)
      rw [show farF (A 51) (A 14) (k + 1) = farF (A 51) (A 14) k + (if 0 ≤ A 51 k - A 14 k then A 51 k - A 14 k else 0 - (A 51 k - A 14 k)) from rfl] at nx
      rw [sX6_farFrom_4]
      simp only [sX6_farFrom_5, sX6_farFrom_6, sX6_farFrom_9, sX6_farFrom_10, sX6_farFrom_11, sX6_farFrom_14, sX6_farFrom_15, sX6_farFrom_16, sX6_farFrom_17, sX6_farFrom_18, sX6_farFrom_19, sX6_farFrom_20, sX6_farFrom_23, sX6_farFrom_24, sX6_farFrom_25, sX6_farFrom_28, wo_49, wf_49_0, wv_49_0, wf_49_1, wv_49_1, wf_49_2, wv_49_2, wp_49_2, wf_49_3, wv_49_3, wf_49_4, wv_49_4, wp_49_4, wi_51, wg_51, ws_51, ww_51, wl_51, wn_51, wi_14, wg_14, ws_14, ww_14, wl_14, wn_14, am_rt_some, am_rt_void, am_rt_none, am_rt_ite, ↓reduceIte, if_true, if_false, and_self, true_and, and_true, true_or, or_true, Bool.false_eq_true, reduceCtorEq, hlt, am_nin (show k < 5 by omega) (show (5 : Nat) < 2147483648 by omega), am_ncl (show k < 2147483648 by omega), am_n1]
      exact nx
  simp only [eX6_farFrom, sX6_farFrom_0, sX6_farFrom_1, sX6_farFrom_2, sX6_farFrom_3]
  exact key 5 0 rfl
theorem c_begin15 : am_CL X (d + 2) mX6_begin [.ref 15] (am_wd I A J) = some (none, am_wd (am_u2 I 15 2 0) (am_u A 17 (am_flI 5 0 (A 17))) J) := by
  simp only [eX6_begin, sX6_begin_0, sX6_begin_1, sX6_begin_4, sX6_begin_5, wo_15, wf_15_0, wv_15_0, wf_15_1, wv_15_1, wf_15_2, wv_15_2, wp_15_2, wf_15_3, wv_15_3, wf_15_4, wv_15_4, wp_15_4, am_rt_some, am_rt_void, am_rt_none, am_rt_ite, ↓reduceIte, if_true, if_false, and_self, true_and, and_true, true_or, or_true, Bool.false_eq_true, reduceCtorEq]
  rw [c_fillI (n := 5) (by decide) (wr_17)]
  simp only [am_rt_some, am_rt_void, am_rt_none, am_rt_ite, ↓reduceIte, if_true, if_false, and_self, true_and, and_true, true_or, or_true, Bool.false_eq_true, reduceCtorEq, sX6_begin_8, sX6_begin_9, sX6_begin_10, sX6_begin_13, wo_15, wf_15_0, wv_15_0, wf_15_1, wv_15_1, wf_15_2, wv_15_2, wp_15_2, wf_15_3, wv_15_3, wf_15_4, wv_15_4, wp_15_4, wi_17, wg_17, ws_17, ww_17, wl_17, wn_17]
/-- one taste, minute for minute -/
def bhF (G : VF) (s fi i all : Int32) : Nat → Int32
  | 0 => 0
  | n + 1 => gT G s (bhF G s fi i all n) (nI n) fi i all
theorem c_behind15 {G : VF} {i n : Nat} {fi : Int32} (hG : cLaw G (A 8) (A 9) (A 10) (I 7 3)) (hi : i < 5) (hn : n ≤ 99) : am_T (am_CL X (d + 4) mX6_behind [.ref 15, .int (nI i), .int (nI n), .ref 7, .int fi] (am_wd I A J)) (oI (bhF G (A 18 i) fi (nI i) (I 15 4) n) fun I' A' J' => Fr [] [11, 12] [] I A J I' A' J') := by
  have key : ∀ (m k : Nat) (A1 : TI), k + m = n → Fr [] [11, 12] [] I A J I A1 J → am_T (am_EV X (d + 3) mX6_behind 6 [.ref 15, .int (nI i), .int (nI n), .ref 7, .int fi, .int (bhF G (A 18 i) fi (nI i) (I 15 4) k), .int (nI k)] [] (am_wd I A1 J)) (oI (bhF G (A 18 i) fi (nI i) (I 15 4) n) fun I' A' J' => Fr [] [11, 12] [] I A J I' A' J') := by
    intro m
    induction m with
    | zero =>
      intro k A1 hk f
      have kn : k = n := by omega
      subst kn
      simp only [sX6_behind_6, sX6_behind_8, sX6_behind_9, sX6_behind_41, sX6_behind_43, am_rt_some, am_rt_void, am_rt_none, am_rt_ite, ↓reduceIte, if_true, if_false, and_self, true_and, and_true, true_or, or_true, Bool.false_eq_true, reduceCtorEq, am_nlt (show k < 2147483648 by omega) (show k < 2147483648 by omega), Nat.lt_irrefl]
      exact am_T.ri f
    | succ m ih =>
      intro k A1 hk f
      have e1 : A1 18 = A 18 := f.a 18 (by decide)
      rw [sX6_behind_6]
      simp only [sX6_behind_8, sX6_behind_9, sX6_behind_12, sX6_behind_13, sX6_behind_14, sX6_behind_17, sX6_behind_18, sX6_behind_19, sX6_behind_21, sX6_behind_23, sX6_behind_25, sX6_behind_26, sX6_behind_27, sX6_behind_30, wo_7, wf_7_0, wv_7_0, wf_7_1, wv_7_1, wf_7_2, wv_7_2, wf_7_3, wv_7_3, wp_7_3, wf_7_4, wv_7_4, wf_7_5, wv_7_5, wo_15, wf_15_0, wv_15_0, wf_15_1, wv_15_1, wf_15_2, wv_15_2, wp_15_2, wf_15_3, wv_15_3, wf_15_4, wv_15_4, wp_15_4, wi_18, wg_18, ws_18, ww_18, wl_18, wn_18, am_rt_some, am_rt_void, am_rt_none, am_rt_ite, ↓reduceIte, if_true, if_false, and_self, true_and, and_true, true_or, or_true, Bool.false_eq_true, reduceCtorEq, am_nlt (show k < 2147483648 by omega) (show n < 2147483648 by omega), show k < n by omega, am_nin (show i < 5 by omega) (show (5 : Nat) < 2147483648 by omega), am_ncl (show i < 2147483648 by omega), e1]
      have hG1 : cLaw G (A1 8) (A1 9) (A1 10) (I 7 3) := t_lac f (by decide) hG
      refine am_T.rtI (c_grown hG1) ?_
      intro I2 A2 J2 f2
      have i2 : I2 = I := f2.ieq
      have j2 : J2 = J := f2.jeq
      subst i2 j2
      simp only [sX6_behind_33, sX6_behind_35, sX6_behind_38, am_n1]
      exact ih (k + 1) A2 (by omega) (f.tr f2)
  simp only [eX6_behind, sX6_behind_0, sX6_behind_1, sX6_behind_3, sX6_behind_4]
  exact key n 0 A (by omega) Fr.rf
def sbF (ta : Nat → Int32) (a : Nat) : Nat → Int32
  | 0 => 0
  | n + 1 => sbF ta a n + ta (a + n)
theorem c_sumOf15 {a b : Nat} (hab : a ≤ b) (hb : b < 5) : am_CL X (d + 1) mX6_sumOfTastes [.ref 15, .int (nI a), .int (nI b)] (am_wd I A J) = some (some (.int (sbF (A 17) a (b + 1 - a))), am_wd I A J) := by
  have key : ∀ (m k : Nat), a + k + m = b + 1 → am_EV X d mX6_sumOfTastes 5 [.ref 15, .int (nI a), .int (nI b), .int (sbF (A 17) a k), .int (nI (a + k))] [] (am_wd I A J) = some (some (.int (sbF (A 17) a (b + 1 - a))), am_wd I A J) := by
    intro m
    induction m with
    | zero =>
      intro k hk
      have kb : a + k = b + 1 := by omega
      have kb2 : b + 1 - a = k := by omega
      have lt : (nI b < nI (b + 1)) = True := eq_true (nI_lt (by omega) (by omega))
      simp only [kb, kb2, sX6_sumOfTastes_5, sX6_sumOfTastes_7, sX6_sumOfTastes_8, sX6_sumOfTastes_27, sX6_sumOfTastes_28, am_rt_some, am_rt_void, am_rt_none, am_rt_ite, ↓reduceIte, if_true, if_false, and_self, true_and, and_true, true_or, or_true, Bool.false_eq_true, reduceCtorEq, lt]
    | succ m ih =>
      intro k hk
      have lt : (nI b < nI (a + k)) = False := by rw [am_nlt (show b < 2147483648 by omega) (show a + k < 2147483648 by omega)]; exact eq_false (by omega)
      have nx := ih (k + 1) (by omega)
      rw [show sbF (A 17) a (k + 1) = sbF (A 17) a k + A 17 (a + k) from rfl, ← Nat.add_assoc] at nx
      rw [sX6_sumOfTastes_5]
      simp only [sX6_sumOfTastes_7, sX6_sumOfTastes_8, sX6_sumOfTastes_11, sX6_sumOfTastes_12, sX6_sumOfTastes_13, sX6_sumOfTastes_16, sX6_sumOfTastes_18, sX6_sumOfTastes_19, sX6_sumOfTastes_20, sX6_sumOfTastes_21, sX6_sumOfTastes_24, wo_15, wf_15_0, wv_15_0, wf_15_1, wv_15_1, wf_15_2, wv_15_2, wp_15_2, wf_15_3, wv_15_3, wf_15_4, wv_15_4, wp_15_4, wi_17, wg_17, ws_17, ww_17, wl_17, wn_17, am_rt_some, am_rt_void, am_rt_none, am_rt_ite, ↓reduceIte, if_true, if_false, and_self, true_and, and_true, true_or, or_true, Bool.false_eq_true, reduceCtorEq, lt, am_nin (show a + k < 5 by omega) (show (5 : Nat) < 2147483648 by omega), am_ncl (show a + k < 2147483648 by omega), am_n1]
      exact nx
  simp only [eX6_sumOfTastes, sX6_sumOfTastes_0, sX6_sumOfTastes_1, sX6_sumOfTastes_2, sX6_sumOfTastes_3]
  exact key (b + 1 - a) 0 (by omega)
theorem c_becomes20_24 : am_CL X (d + 1) mX6_becomes [.ref 24, .ref 20] (am_wd I A J) = some (none, am_wd (am_u2 I 24 2 (I 20 2)) (am_u (am_u A 25 (va_cpy (A 21) (A 25) 0 0 8)) 26 (va_cpy (A 22) (A 26) 0 0 5)) J) := by
  simp only [eX6_becomes, sX6_becomes_0, sX6_becomes_1, sX6_becomes_4, sX6_becomes_5, sX6_becomes_6, sX6_becomes_9, sX6_becomes_10, wo_20, wf_20_0, wv_20_0, wf_20_1, wv_20_1, wf_20_2, wv_20_2, wp_20_2, wf_20_3, wv_20_3, wf_20_4, wv_20_4, wp_20_4, wo_24, wf_24_0, wv_24_0, wf_24_1, wv_24_1, wf_24_2, wv_24_2, wp_24_2, wf_24_3, wv_24_3, wf_24_4, wv_24_4, wp_24_4, am_rt_some, am_rt_void, am_rt_none, am_rt_ite, ↓reduceIte, if_true, if_false, and_self, true_and, and_true, true_or, or_true, Bool.false_eq_true, reduceCtorEq]
  rw [sX6_becomes_12 (cl := .inl (0, 8, .inl (va_cpy (A 21) (A 25) 0 0 8))) (by rw [wr_21, wr_25]; exact am_cpI 0 0 8 (by decide) (by decide) (by decide) (by decide))]
  simp only [sX6_becomes_15, sX6_becomes_16, sX6_becomes_19, sX6_becomes_20, sX6_becomes_21, sX6_becomes_24, sX6_becomes_25, wo_20, wf_20_0, wv_20_0, wf_20_1, wv_20_1, wf_20_2, wv_20_2, wp_20_2, wf_20_3, wv_20_3, wf_20_4, wv_20_4, wp_20_4, wo_24, wf_24_0, wv_24_0, wf_24_1, wv_24_1, wf_24_2, wv_24_2, wp_24_2, wf_24_3, wv_24_3, wf_24_4, wv_24_4, wp_24_4, wi_25, wg_25, ws_25, ww_25, wl_25, wn_25, am_rt_some, am_rt_void, am_rt_none, am_rt_ite, ↓reduceIte, if_true, if_false, and_self, true_and, and_true, true_or, or_true, Bool.false_eq_true, reduceCtorEq]
  rw [sX6_becomes_26 (cl := .inl (0, 5, .inl (va_cpy (A 22) (A 26) 0 0 5))) (by rw [wr_22, wr_26]; exact am_cpI 0 0 5 (by decide) (by decide) (by decide) (by decide))]
  simp only [sX6_becomes_29, sX6_becomes_30, sX6_becomes_31, sX6_becomes_34, sX6_becomes_37, wo_20, wf_20_0, wv_20_0, wf_20_1, wv_20_1, wf_20_2, wv_20_2, wp_20_2, wf_20_3, wv_20_3, wf_20_4, wv_20_4, wp_20_4, wo_24, wf_24_0, wv_24_0, wf_24_1, wv_24_1, wf_24_2, wv_24_2, wp_24_2, wf_24_3, wv_24_3, wf_24_4, wv_24_4, wp_24_4, wi_26, wg_26, ws_26, ww_26, wl_26, wn_26, am_rt_some, am_rt_void, am_rt_none, am_rt_ite, ↓reduceIte, if_true, if_false, and_self, true_and, and_true, true_or, or_true, Bool.false_eq_true, reduceCtorEq]
theorem c_becomes24_28 : am_CL X (d + 1) mX6_becomes [.ref 28, .ref 24] (am_wd I A J) = some (none, am_wd (am_u2 I 28 2 (I 24 2)) (am_u (am_u A 29 (va_cpy (A 25) (A 29) 0 0 8)) 30 (va_cpy (A 26) (A 30) 0 0 5)) J) := by
  simp only [eX6_becomes, sX6_becomes_0, sX6_becomes_1, sX6_becomes_4, sX6_becomes_5, sX6_becomes_6, sX6_becomes_9, sX6_becomes_10, wo_24, wf_24_0, wv_24_0, wf_24_1, wv_24_1, wf_24_2, wv_24_2, wp_24_2, wf_24_3, wv_24_3, wf_24_4, wv_24_4, wp_24_4, wo_28, wf_28_0, wv_28_0, wf_28_1, wv_28_1, wf_28_2, wv_28_2, wp_28_2, wf_28_3, wv_28_3, wf_28_4, wv_28_4, wp_28_4, am_rt_some, am_rt_void, am_rt_none, am_rt_ite, ↓reduceIte, if_true, if_false, and_self, true_and, and_true, true_or, or_true, Bool.false_eq_true, reduceCtorEq]
  rw [sX6_becomes_12 (cl := .inl (0, 8, .inl (va_cpy (A 25) (A 29) 0 0 8))) (by rw [wr_25, wr_29]; exact am_cpI 0 0 8 (by decide) (by decide) (by decide) (by decide))]
  simp only [sX6_becomes_15, sX6_becomes_16, sX6_becomes_19, sX6_becomes_20, sX6_becomes_21, sX6_becomes_24, sX6_becomes_25, wo_24, wf_24_0, wv_24_0, wf_24_1, wv_24_1, wf_24_2, wv_24_2, wp_24_2, wf_24_3, wv_24_3, wf_24_4, wv_24_4, wp_24_4, wo_28, wf_28_0, wv_28_0, wf_28_1, wv_28_1, wf_28_2, wv_28_2, wp_28_2, wf_28_3, wv_28_3, wf_28_4, wv_28_4, wp_28_4, wi_29, wg_29, ws_29, ww_29, wl_29, wn_29, am_rt_some, am_rt_void, am_rt_none, am_rt_ite, ↓reduceIte, if_true, if_false, and_self, true_and, and_true, true_or, or_true, Bool.false_eq_true, reduceCtorEq]
  rw [sX6_becomes_26 (cl := .inl (0, 5, .inl (va_cpy (A 26) (A 30) 0 0 5))) (by rw [wr_26, wr_30]; exact am_cpI 0 0 5 (by decide) (by decide) (by decide) (by decide))]
  simp only [sX6_becomes_29, sX6_becomes_30, sX6_becomes_31, sX6_becomes_34, sX6_becomes_37, wo_24, wf_24_0, wv_24_0, wf_24_1, wv_24_1, wf_24_2, wv_24_2, wp_24_2, wf_24_3, wv_24_3, wf_24_4, wv_24_4, wp_24_4, wo_28, wf_28_0, wv_28_0, wf_28_1, wv_28_1, wf_28_2, wv_28_2, wp_28_2, wf_28_3, wv_28_3, wf_28_4, wv_28_4, wp_28_4, wi_30, wg_30, ws_30, ww_30, wl_30, wn_30, am_rt_some, am_rt_void, am_rt_none, am_rt_ite, ↓reduceIte, if_true, if_false, and_self, true_and, and_true, true_or, or_true, Bool.false_eq_true, reduceCtorEq]
theorem c_becomes28_32 : am_CL X (d + 1) mX6_becomes [.ref 32, .ref 28] (am_wd I A J) = some (none, am_wd (am_u2 I 32 2 (I 28 2)) (am_u (am_u A 33 (va_cpy (A 29) (A 33) 0 0 8)) 34 (va_cpy (A 30) (A 34) 0 0 5)) J) := by
  simp only [eX6_becomes, sX6_becomes_0, sX6_becomes_1, sX6_becomes_4, sX6_becomes_5, sX6_becomes_6, sX6_becomes_9, sX6_becomes_10, wo_28, wf_28_0, wv_28_0, wf_28_1, wv_28_1, wf_28_2, wv_28_2, wp_28_2, wf_28_3, wv_28_3, wf_28_4, wv_28_4, wp_28_4, wo_32, wf_32_0, wv_32_0, wf_32_1, wv_32_1, wf_32_2, wv_32_2, wp_32_2, wf_32_3, wv_32_3, wf_32_4, wv_32_4, wp_32_4, am_rt_some, am_rt_void, am_rt_none, am_rt_ite, ↓reduceIte, if_true, if_false, and_self, true_and, and_true, true_or, or_true, Bool.false_eq_true, reduceCtorEq]
  rw [sX6_becomes_12 (cl := .inl (0, 8, .inl (va_cpy (A 29) (A 33) 0 0 8))) (by rw [wr_29, wr_33]; exact am_cpI 0 0 8 (by decide) (by decide) (by decide) (by decide))]
  simp only [sX6_becomes_15, sX6_becomes_16, sX6_becomes_19, sX6_becomes_20, sX6_becomes_21, sX6_becomes_24, sX6_becomes_25, wo_28, wf_28_0, wv_28_0, wf_28_1, wv_28_1, wf_28_2, wv_28_2, wp_28_2, wf_28_3, wv_28_3, wf_28_4, wv_28_4, wp_28_4, wo_32, wf_32_0, wv_32_0, wf_32_1, wv_32_1, wf_32_2, wv_32_2, wp_32_2, wf_32_3, wv_32_3, wf_32_4, wv_32_4, wp_32_4, wi_33, wg_33, ws_33, ww_33, wl_33, wn_33, am_rt_some, am_rt_void, am_rt_none, am_rt_ite, ↓reduceIte, if_true, if_false, and_self, true_and, and_true, true_or, or_true, Bool.false_eq_true, reduceCtorEq]
  rw [sX6_becomes_26 (cl := .inl (0, 5, .inl (va_cpy (A 30) (A 34) 0 0 5))) (by rw [wr_30, wr_34]; exact am_cpI 0 0 5 (by decide) (by decide) (by decide) (by decide))]
  simp only [sX6_becomes_29, sX6_becomes_30, sX6_becomes_31, sX6_becomes_34, sX6_becomes_37, wo_28, wf_28_0, wv_28_0, wf_28_1, wv_28_1, wf_28_2, wv_28_2, wp_28_2, wf_28_3, wv_28_3, wf_28_4, wv_28_4, wp_28_4, wo_32, wf_32_0, wv_32_0, wf_32_1, wv_32_1, wf_32_2, wv_32_2, wp_32_2, wf_32_3, wv_32_3, wf_32_4, wv_32_4, wp_32_4, wi_34, wg_34, ws_34, ww_34, wl_34, wn_34, am_rt_some, am_rt_void, am_rt_none, am_rt_ite, ↓reduceIte, if_true, if_false, and_self, true_and, and_true, true_or, or_true, Bool.false_eq_true, reduceCtorEq]
theorem c_putOn20 : am_CL X (d + 3) mX6_putOn [.ref 20, .ref 16] (am_wd I A J) = some (none, am_wd (am_u2 I 20 2 0) (am_u (am_u A 21 (va_cpy (A 16) (A 21) 0 0 8)) 22 (am_flI 5 0 (A 22))) J) := by
  simp only [eX6_putOn, sX6_putOn_0, sX6_putOn_1, sX6_putOn_2, sX6_putOn_3, sX6_putOn_6, sX6_putOn_7, wo_20, wf_20_0, wv_20_0, wf_20_1, wv_20_1, wf_20_2, wv_20_2, wp_20_2, wf_20_3, wv_20_3, wf_20_4, wv_20_4, wp_20_4, am_rt_some, am_rt_void, am_rt_none, am_rt_ite, ↓reduceIte, if_true, if_false, and_self, true_and, and_true, true_or, or_true, Bool.false_eq_true, reduceCtorEq]
  rw [sX6_putOn_9 (cl := .inl (0, 8, .inl (va_cpy (A 16) (A 21) 0 0 8))) (by rw [wr_16, wr_21]; exact am_cpI 0 0 8 (by decide) (by decide) (by decide) (by decide))]
  simp only [sX6_putOn_12, sX6_putOn_13, wo_20, wf_20_0, wv_20_0, wf_20_1, wv_20_1, wf_20_2, wv_20_2, wp_20_2, wf_20_3, wv_20_3, wf_20_4, wv_20_4, wp_20_4, wi_21, wg_21, ws_21, ww_21, wl_21, wn_21, am_rt_some, am_rt_void, am_rt_none, am_rt_ite, ↓reduceIte, if_true, if_false, and_self, true_and, and_true, true_or, or_true, Bool.false_eq_true, reduceCtorEq, eX6_begin, sX6_begin_0, sX6_begin_1, sX6_begin_4, sX6_begin_5]
  rw [c_fillI (n := 5) (by decide) (wr_22)]
  simp only [am_rt_some, am_rt_void, am_rt_none, am_rt_ite, ↓reduceIte, if_true, if_false, and_self, true_and, and_true, true_or, or_true, Bool.false_eq_true, reduceCtorEq, sX6_begin_8, sX6_begin_9, sX6_begin_10, sX6_begin_13, sX6_putOn_16, wo_20, wf_20_0, wv_20_0, wf_20_1, wv_20_1, wf_20_2, wv_20_2, wp_20_2, wf_20_3, wv_20_3, wf_20_4, wv_20_4, wp_20_4, wi_22, wg_22, ws_22, ww_22, wl_22, wn_22, am_u_ne (show (22 : Nat) ≠ 21 by decide)]
end PS

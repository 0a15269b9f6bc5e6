/-! back: both -/
section BK
variable {X : Nat × (Nat → Int32)} {d : Nat} {I A : TI} {J : TJ} {w : am_W}
theorem bt_back : Bt mX10_back mX11_back [] := by
  intro X d I A J ⟨G, hR⟩
  obtain ⟨hk, hk6, e1, e2, ei⟩ := hR.img
  obtain ⟨b1, b2⟩ := hR.isk
  have e10 : ((1 : Int32) = 0) = False := by decide
  rcases b2 with b2 | b2
  · refine ⟨-5, ?_⟩
    simp only [eX10_back, sX10_back_0, sX10_back_1, sX10_back_4, sX10_back_7, sX10_back_9, wo_0, wf_0_0, wv_0_0, wf_0_1, wv_0_1, wf_0_2, wv_0_2, wf_0_3, wv_0_3, wf_0_4, wv_0_4, wf_0_5, wv_0_5, wf_0_6, wv_0_6, wf_0_7, wv_0_7, wf_0_8, wv_0_8, wf_0_9, wv_0_9, wp_0_9, wf_0_10, wv_0_10, wp_0_10, wf_0_11, wv_0_11, wp_0_11, am_rt_some, am_rt_void, am_rt_none, am_rt_ite, ↓reduceIte, if_true, if_false, and_self, true_and, and_true, true_or, or_true, Bool.false_eq_true, reduceCtorEq, b2]
    refine am_T.ri ?_
    simp only [eX11_back, sX11_back_0, sX11_back_1, sX11_back_4, sX11_back_7, sX11_back_9, wo_81, wf_81_0, wv_81_0, wf_81_1, wv_81_1, wp_81_1, wf_81_2, wv_81_2, wp_81_2, wf_81_3, wv_81_3, wf_81_4, wv_81_4, wf_81_5, wv_81_5, wf_81_6, wv_81_6, wp_81_6, wf_81_7, wv_81_7, wp_81_7, wf_81_8, wv_81_8, wf_81_9, wv_81_9, wp_81_9, wf_81_10, wv_81_10, wf_81_11, wv_81_11, wp_81_11, wf_81_12, wv_81_12, wp_81_12, wf_81_13, wv_81_13, wf_81_14, wv_81_14, wp_81_14, wf_81_15, wv_81_15, wp_81_15, wf_81_16, wv_81_16, wp_81_16, wf_81_17, wv_81_17, wp_81_17, wf_81_18, wv_81_18, wf_81_19, wv_81_19, wf_81_20, wv_81_20, wf_81_21, wv_81_21, wf_81_22, wv_81_22, wf_81_23, wv_81_23, wf_81_24, wv_81_24, wf_81_25, wv_81_25, wf_81_26, wv_81_26, wf_81_27, wv_81_27, wf_81_28, wv_81_28, wf_81_29, wv_81_29, wf_81_30, wv_81_30, wf_81_31, wv_81_31, wf_81_32, wv_81_32, wf_81_33, wv_81_33, wp_81_33, wf_81_34, wv_81_34, wf_81_35, wv_81_35, wp_81_35, wf_81_36, wv_81_36, wf_81_37, wv_81_37, wp_81_37, wf_81_38, wv_81_38, wf_81_39, wv_81_39, wf_81_40, wv_81_40, wf_81_41, wv_81_41, wf_81_42, wv_81_42, wp_81_42, wf_81_43, wv_81_43, wp_81_43, wf_81_44, wv_81_44, wp_81_44, wf_81_45, wv_81_45, wf_81_46, wv_81_46, wf_81_47, wv_81_47, wf_81_48, wv_81_48, wp_81_48, wf_81_49, wv_81_49, wf_81_50, wv_81_50, wp_81_50, am_rt_some, am_rt_void, am_rt_none, am_rt_ite, ↓reduceIte, if_true, if_false, and_self, true_and, and_true, true_or, or_true, Bool.false_eq_true, reduceCtorEq, b1 ▸ b2]
    exact am_T.ri ⟨G, hR⟩
  refine ⟨A 109 2, ?_⟩
  simp only [eX10_back, sX10_back_0, sX10_back_1, sX10_back_4, sX10_back_7, sX10_back_9, sX10_back_10, sX10_back_11, sX10_back_14, sX10_back_15, sX10_back_18, sX10_back_19, sX10_back_22, sX10_back_25, sX10_back_26, sX10_back_29, sX10_back_32, sX10_back_33, sX10_back_33_f, sX10_back_34, wo_0, wf_0_0, wv_0_0, wf_0_1, wv_0_1, wf_0_2, wv_0_2, wf_0_3, wv_0_3, wf_0_4, wv_0_4, wf_0_5, wv_0_5, wf_0_6, wv_0_6, wf_0_7, wv_0_7, wf_0_8, wv_0_8, wf_0_9, wv_0_9, wp_0_9, wf_0_10, wv_0_10, wp_0_10, wf_0_11, wv_0_11, wp_0_11, wo_46, wf_46_0, wv_46_0, wf_46_1, wv_46_1, wf_46_2, wv_46_2, wf_46_3, wv_46_3, wp_46_3, wi_48, wg_48, ws_48, ww_48, wl_48, wn_48, am_rt_some, am_rt_void, am_rt_none, am_rt_ite, ↓reduceIte, if_true, if_false, and_self, true_and, and_true, true_or, or_true, Bool.false_eq_true, reduceCtorEq, b2, e10, e1, c_scene46 hk6 hR.kip.2, show am_in 2 5 = true from rfl, am_u_at, am_u_ne (show (48 : Nat) ≠ 51 by decide), am_u_ne (show (48 : Nat) ≠ 50 by decide)]
  refine am_T.ri' (by
    show va_cpy (A 55) (A 48) 0 0 5 2 = A 109 2
    rw [cp_at (by decide)]
    exact hR.kle 2 (by decide)) ?_
  let I1 : TI := am_u2 (am_u2 I 49 2 (I 56 2)) 46 3 (I 53 3)
  let A1 : TI := am_u (am_u (am_u (am_u A 47 (va_cpy (A 54) (A 47) 0 0 (8 * hk))) 48 (va_cpy (A 55) (A 48) 0 0 5)) 50 (va_cpy (A 57) (A 50) 0 0 8)) 51 (va_cpy (A 58) (A 51) 0 0 5)
  show am_T (am_CL X (d + 60) mX11_back [.ref 81] (am_wd I1 A1 J)) (oI (A 109 2) RelE)
  have F1 : Fr [(49, 2), (46, 3)] [47, 48, 50, 51] [] I A J I1 A1 J := by
    show Fr _ _ _ I A J (am_u2 (am_u2 I 49 2 (I 56 2)) 46 3 (I 53 3)) (am_u (am_u (am_u (am_u A 47 (va_cpy (A 54) (A 47) 0 0 (8 * hk))) 48 (va_cpy (A 55) (A 48) 0 0 5)) 50 (va_cpy (A 57) (A 50) 0 0 8)) 51 (va_cpy (A 58) (A 51) 0 0 5)) J
    exact (by repeat' (first | exact Fr.rf | assumption | refine Fr.ua ?_ ?_ | refine Fr.ui ?_ ?_ | refine Fr.uj ?_ ?_ | decide))
  have b42 : I1 81 42 = nI hk := e2
  have i8 : (8 : Int32) * nI hk = nI (8 * hk) := i_mul 8 hk
  have l1 : ∀ (m t : Nat) (A2 : TI), t + m = 8 * hk → Fr [] [82] [] I1 A1 J I1 A2 J → (∀ j, j < t → A2 82 (40 + j) = A 107 j) → (∀ j, (j < 40 ∨ 40 + t ≤ j) → A2 82 j = A 82 j) → ∃ A3 : TI, Fr [] [82] [] I1 A1 J I1 A3 J ∧ (∀ j, j < 8 * hk → A3 82 (40 + j) = A 107 j) ∧ (∀ j, (j < 40 ∨ 40 + 8 * hk ≤ j) → A3 82 j = A 82 j) ∧ am_EV X (d + 59) mX11_back 12 [.ref 81, .int (nI t)] [] (am_wd I1 A2 J) = am_EV X (d + 59) mX11_back 46 [.ref 81, .int (nI 0)] [] (am_wd I1 A3 J) := by
    intro m
    induction m with
    | zero =>
      intro t A2 ht f g h
      have t8 : t = 8 * hk := by omega
      subst t8
      exact ⟨A2, f, g, h, by simp only [sX11_back_12, sX11_back_13, sX11_back_15, sX11_back_16, sX11_back_19, sX11_back_20, sX11_back_44, sX11_back_45, wo_81, wf_81_0, wv_81_0, wf_81_1, wv_81_1, wp_81_1, wf_81_2, wv_81_2, wp_81_2, wf_81_3, wv_81_3, wf_81_4, wv_81_4, wf_81_5, wv_81_5, wf_81_6, wv_81_6, wp_81_6, wf_81_7, wv_81_7, wp_81_7, wf_81_8, wv_81_8, wf_81_9, wv_81_9, wp_81_9, wf_81_10, wv_81_10, wf_81_11, wv_81_11, wp_81_11, wf_81_12, wv_81_12, wp_81_12, wf_81_13, wv_81_13, wf_81_14, wv_81_14, wp_81_14, wf_81_15, wv_81_15, wp_81_15, wf_81_16, wv_81_16, wp_81_16, wf_81_17, wv_81_17, wp_81_17, wf_81_18, wv_81_18, wf_81_19, wv_81_19, wf_81_20, wv_81_20, wf_81_21, wv_81_21, wf_81_22, wv_81_22, wf_81_23, wv_81_23, wf_81_24, wv_81_24, wf_81_25, wv_81_25, wf_81_26, wv_81_26, wf_81_27, wv_81_27, wf_81_28, wv_81_28, wf_81_29, wv_81_29, wf_81_30, wv_81_30, wf_81_31, wv_81_31, wf_81_32, wv_81_32, wf_81_33, wv_81_33, wp_81_33, wf_81_34, wv_81_34, wf_81_35, wv_81_35, wp_81_35, wf_81_36, wv_81_36, wf_81_37, wv_81_37, wp_81_37, wf_81_38, wv_81_38, wf_81_39, wv_81_39, wf_81_40, wv_81_40, wf_81_41, wv_81_41, wf_81_42, wv_81_42, wp_81_42, wf_81_43, wv_81_43, wp_81_43, wf_81_44, wv_81_44, wp_81_44, wf_81_45, wv_81_45, wf_81_46, wv_81_46, wf_81_47, wv_81_47, wf_81_48, wv_81_48, wp_81_48, wf_81_49, wv_81_49, wf_81_50, wv_81_50, wp_81_50, am_rt_some, am_rt_void, am_rt_none, am_rt_ite, ↓reduceIte, if_true, if_false, and_self, true_and, and_true, true_or, or_true, Bool.false_eq_true, reduceCtorEq, b42, i8, am_nlt (show 8 * hk < 2147483648 by omega) (show 8 * hk < 2147483648 by omega), Nat.lt_irrefl]; rfl⟩
    | succ m ih =>
      intro t A2 ht f g h
      have i4 : (40 : Int32) + nI t = nI (40 + t) := i_add 40 t
      have o107 : A2 107 t = A 107 t := by rw [f.a 107 (by decide)]; rfl
      obtain ⟨A3, x1, x2, x3, x4⟩ := ih (t + 1) (am_u A2 82 (upd (A2 82) (40 + t) (A 107 t))) (by omega) (f.ua (by decide)) (fun j hj => by
        rw [am_u_at]
        by_cases y : j = t
        · subst y; rw [upd_at]
        · rw [upd_ne (show 40 + j ≠ 40 + t by omega)]; exact g j (by omega)) (fun j hj => by
        rw [am_u_at, upd_ne (by omega)]; exact h j (by omega))
      refine ⟨A3, x1, x2, x3, ?_⟩
      rw [← x4, sX11_back_12]
      simp only [sX11_back_13, sX11_back_15, sX11_back_16, sX11_back_19, sX11_back_20, sX11_back_23, sX11_back_24, sX11_back_27, sX11_back_29, sX11_back_30, sX11_back_31, sX11_back_32, sX11_back_35, sX11_back_36, sX11_back_37, sX11_back_38, sX11_back_41, wo_81, wf_81_0, wv_81_0, wf_81_1, wv_81_1, wp_81_1, wf_81_2, wv_81_2, wp_81_2, wf_81_3, wv_81_3, wf_81_4, wv_81_4, wf_81_5, wv_81_5, wf_81_6, wv_81_6, wp_81_6, wf_81_7, wv_81_7, wp_81_7, wf_81_8, wv_81_8, wf_81_9, wv_81_9, wp_81_9, wf_81_10, wv_81_10, wf_81_11, wv_81_11, wp_81_11, wf_81_12, wv_81_12, wp_81_12, wf_81_13, wv_81_13, wf_81_14, wv_81_14, wp_81_14, wf_81_15, wv_81_15, wp_81_15, wf_81_16, wv_81_16, wp_81_16, wf_81_17, wv_81_17, wp_81_17, wf_81_18, wv_81_18, wf_81_19, wv_81_19, wf_81_20, wv_81_20, wf_81_21, wv_81_21, wf_81_22, wv_81_22, wf_81_23, wv_81_23, wf_81_24, wv_81_24, wf_81_25, wv_81_25, wf_81_26, wv_81_26, wf_81_27, wv_81_27, wf_81_28, wv_81_28, wf_81_29, wv_81_29, wf_81_30, wv_81_30, wf_81_31, wv_81_31, wf_81_32, wv_81_32, wf_81_33, wv_81_33, wp_81_33, wf_81_34, wv_81_34, wf_81_35, wv_81_35, wp_81_35, wf_81_36, wv_81_36, wf_81_37, wv_81_37, wp_81_37, wf_81_38, wv_81_38, wf_81_39, wv_81_39, wf_81_40, wv_81_40, wf_81_41, wv_81_41, wf_81_42, wv_81_42, wp_81_42, wf_81_43, wv_81_43, wp_81_43, wf_81_44, wv_81_44, wp_81_44, wf_81_45, wv_81_45, wf_81_46, wv_81_46, wf_81_47, wv_81_47, wf_81_48, wv_81_48, wp_81_48, wf_81_49, wv_81_49, wf_81_50, wv_81_50, wp_81_50, wi_82, wg_82, ws_82, ww_82, wl_82, wn_82, wi_107, wg_107, ws_107, ww_107, wl_107, wn_107, am_rt_some, am_rt_void, am_rt_none, am_rt_ite, ↓reduceIte, if_true, if_false, and_self, true_and, and_true, true_or, or_true, Bool.false_eq_true, reduceCtorEq, b42, i8, am_nlt (show t < 2147483648 by omega) (show 8 * hk < 2147483648 by omega), show t < 8 * hk by omega, i4, am_nin (show t < 48 by omega) (show (48 : Nat) < 2147483648 by omega), am_nin (show 40 + t < 105 by omega) (show (105 : Nat) < 2147483648 by omega), am_ncl (show t < 2147483648 by omega), am_ncl (show 40 + t < 2147483648 by omega), o107, am_n1]
  have l2 : ∀ (m t : Nat) (A0 A2 : TI), t + m = 14 → Fr [] [82] [] I1 A1 J I1 A0 J → Fr [] [105] [] I1 A0 J I1 A2 J → (∀ j, j < t → A2 105 j = A 108 j) → ∃ A3 : TI, Fr [] [105] [] I1 A0 J I1 A3 J ∧ (∀ j, j < 14 → A3 105 j = A 108 j) ∧ am_EV X (d + 59) mX11_back 46 [.ref 81, .int (nI t)] [] (am_wd I1 A2 J) = am_EV X (d + 59) mX11_back 72 [.ref 81, .int (nI 0)] [] (am_wd I1 A3 J) := by
    intro m
    induction m with
    | zero =>
      intro t A0 A2 ht f0 f g
      have t14 : t = 14 := by omega
      subst t14
      exact ⟨A2, f, g, by simp only [sX11_back_46, sX11_back_47, sX11_back_49, sX11_back_70, sX11_back_71, am_rt_some, am_rt_void, am_rt_none, am_rt_ite, ↓reduceIte, if_true, if_false, and_self, true_and, and_true, true_or, or_true, Bool.false_eq_true, reduceCtorEq, show (nI 14 < 14) = False by decide]; rfl⟩
    | succ m ih =>
      intro t A0 A2 ht f0 f g
      have hlt : (nI t < 14) = True := by rw [am_nlit (x := 14) 14 rfl (show t < 2147483648 by omega) (by decide)]; exact eq_true (by omega)
      have o108 : A2 108 t = A 108 t := by rw [f.a 108 (by decide), f0.a 108 (by decide)]; rfl
      obtain ⟨A3, x1, x2, x3⟩ := ih (t + 1) A0 (am_u A2 105 (upd (A2 105) t (A 108 t))) (by omega) f0 (f.ua (by decide)) (fun j hj => by
        rw [am_u_at]
        by_cases y : j = t
        · subst y; rw [upd_at]
        · rw [upd_ne y]; exact g j (by omega))
      refine ⟨A3, x1, x2, ?_⟩
      rw [← x3, sX11_back_46]
      simp only [sX11_back_47, sX11_back_49, sX11_back_52, sX11_back_53, sX11_back_56, sX11_back_57, sX11_back_58, sX11_back_61, sX11_back_62, sX11_back_63, sX11_back_64, sX11_back_67, wo_81, wf_81_0, wv_81_0, wf_81_1, wv_81_1, wp_81_1, wf_81_2, wv_81_2, wp_81_2, wf_81_3, wv_81_3, wf_81_4, wv_81_4, wf_81_5, wv_81_5, wf_81_6, wv_81_6, wp_81_6, wf_81_7, wv_81_7, wp_81_7, wf_81_8, wv_81_8, wf_81_9, wv_81_9, wp_81_9, wf_81_10, wv_81_10, wf_81_11, wv_81_11, wp_81_11, wf_81_12, wv_81_12, wp_81_12, wf_81_13, wv_81_13, wf_81_14, wv_81_14, wp_81_14, wf_81_15, wv_81_15, wp_81_15, wf_81_16, wv_81_16, wp_81_16, wf_81_17, wv_81_17, wp_81_17, wf_81_18, wv_81_18, wf_81_19, wv_81_19, wf_81_20, wv_81_20, wf_81_21, wv_81_21, wf_81_22, wv_81_22, wf_81_23, wv_81_23, wf_81_24, wv_81_24, wf_81_25, wv_81_25, wf_81_26, wv_81_26, wf_81_27, wv_81_27, wf_81_28, wv_81_28, wf_81_29, wv_81_29, wf_81_30, wv_81_30, wf_81_31, wv_81_31, wf_81_32, wv_81_32, wf_81_33, wv_81_33, wp_81_33, wf_81_34, wv_81_34, wf_81_35, wv_81_35, wp_81_35, wf_81_36, wv_81_36, wf_81_37, wv_81_37, wp_81_37, wf_81_38, wv_81_38, wf_81_39, wv_81_39, wf_81_40, wv_81_40, wf_81_41, wv_81_41, wf_81_42, wv_81_42, wp_81_42, wf_81_43, wv_81_43, wp_81_43, wf_81_44, wv_81_44, wp_81_44, wf_81_45, wv_81_45, wf_81_46, wv_81_46, wf_81_47, wv_81_47, wf_81_48, wv_81_48, wp_81_48, wf_81_49, wv_81_49, wf_81_50, wv_81_50, wp_81_50, wi_105, wg_105, ws_105, ww_105, wl_105, wn_105, wi_108, wg_108, ws_108, ww_108, wl_108, wn_108, am_rt_some, am_rt_void, am_rt_none, am_rt_ite, ↓reduceIte, if_true, if_false, and_self, true_and, and_true, true_or, or_true, Bool.false_eq_true, reduceCtorEq, hlt, am_nin (show t < 14 by omega) (show (14 : Nat) < 2147483648 by omega), am_ncl (show t < 2147483648 by omega), o108, am_n1]
  have l3 : ∀ (m t : Nat) (A0 A2 : TI), t + m = 5 → Fr [] [82, 105] [] I1 A1 J I1 A0 J → Fr [] [106] [] I1 A0 J I1 A2 J → (∀ j, j < t → A2 106 j = A 109 j) → ∃ A3 : TI, Fr [] [106] [] I1 A0 J I1 A3 J ∧ (∀ j, j < 5 → A3 106 j = A 109 j) ∧ am_EV X (d + 59) mX11_back 72 [.ref 81, .int (nI t)] [] (am_wd I1 A2 J) = am_EV X (d + 59) mX11_back 95 [.ref 81, .int (nI 5)] [] (am_wd I1 A3 J) := by
    intro m
    induction m with
    | zero =>
      intro t A0 A2 ht f0 f g
      have t5 : t = 5 := by omega
      subst t5
      exact ⟨A2, f, g, by simp only [sX11_back_72, sX11_back_73, sX11_back_74, am_rt_some, am_rt_void, am_rt_none, am_rt_ite, ↓reduceIte, if_true, if_false, and_self, true_and, and_true, true_or, or_true, Bool.false_eq_true, reduceCtorEq, show (nI 5 < 5) = False by decide]⟩
    | succ m ih =>
      intro t A0 A2 ht f0 f g
      have hlt : (nI t < 5) = True := by rw [am_nlit (x := 5) 5 rfl (show t < 2147483648 by omega) (by decide)]; exact eq_true (by omega)
      have o109 : A2 109 t = A 109 t := by rw [f.a 109 (by decide), f0.a 109 (by decide)]; rfl
      obtain ⟨A3, x1, x2, x3⟩ := ih (t + 1) A0 (am_u A2 106 (upd (A2 106) t (A 109 t))) (by omega) f0 (f.ua (by decide)) (fun j hj => by
        rw [am_u_at]
        by_cases y : j = t
        · subst y; rw [upd_at]
        · rw [upd_ne y]; exact g j (by omega))
      refine ⟨A3, x1, x2, ?_⟩
      rw [← x3, sX11_back_72]
      simp only [sX11_back_73, sX11_back_74, sX11_back_77, sX11_back_78, sX11_back_81, sX11_back_82, sX11_back_83, sX11_back_86, sX11_back_87, sX11_back_88, sX11_back_89, sX11_back_92, wo_81, wf_81_0, wv_81_0, wf_81_1, wv_81_1, wp_81_1, wf_81_2, wv_81_2, wp_81_2, wf_81_3, wv_81_3, wf_81_4, wv_81_4, wf_81_5, wv_81_5, wf_81_6, wv_81_6, wp_81_6, wf_81_7, wv_81_7, wp_81_7, wf_81_8, wv_81_8, wf_81_9, wv_81_9, wp_81_9, wf_81_10, wv_81_10, wf_81_11, wv_81_11, wp_81_11, wf_81_12, wv_81_12, wp_81_12, wf_81_13, wv_81_13, wf_81_14, wv_81_14, wp_81_14, wf_81_15, wv_81_15, wp_81_15, wf_81_16, wv_81_16, wp_81_16, wf_81_17, wv_81_17, wp_81_17, wf_81_18, wv_81_18, wf_81_19, wv_81_19, wf_81_20, wv_81_20, wf_81_21, wv_81_21, wf_81_22, wv_81_22, wf_81_23, wv_81_23, wf_81_24, wv_81_24, wf_81_25, wv_81_25, wf_81_26, wv_81_26, wf_81_27, wv_81_27, wf_81_28, wv_81_28, wf_81_29, wv_81_29, wf_81_30, wv_81_30, wf_81_31, wv_81_31, wf_81_32, wv_81_32, wf_81_33, wv_81_33, wp_81_33, wf_81_34, wv_81_34, wf_81_35, wv_81_35, wp_81_35, wf_81_36, wv_81_36, wf_81_37, wv_81_37, wp_81_37, wf_81_38, wv_81_38, wf_81_39, wv_81_39, wf_81_40, wv_81_40, wf_81_41, wv_81_41, wf_81_42, wv_81_42, wp_81_42, wf_81_43, wv_81_43, wp_81_43, wf_81_44, wv_81_44, wp_81_44, wf_81_45, wv_81_45, wf_81_46, wv_81_46, wf_81_47, wv_81_47, wf_81_48, wv_81_48, wp_81_48, wf_81_49, wv_81_49, wf_81_50, wv_81_50, wp_81_50, wi_106, wg_106, ws_106, ww_106, wl_106, wn_106, wi_109, wg_109, ws_109, ww_109, wl_109, wn_109, am_rt_some, am_rt_void, am_rt_none, am_rt_ite, ↓reduceIte, if_true, if_false, and_self, true_and, and_true, true_or, or_true, Bool.false_eq_true, reduceCtorEq, hlt, am_nin (show t < 5 by omega) (show (5 : Nat) < 2147483648 by omega), am_ncl (show t < 2147483648 by omega), o109, am_n1]
  obtain ⟨A3, x1, x2, x2', x3⟩ := l1 (8 * hk) 0 A1 (by omega) Fr.rf (fun j hj => absurd hj (Nat.not_lt_zero j)) (fun j _ => rfl)
  obtain ⟨A4, y1, y2, y3⟩ := l2 14 0 A3 A3 rfl x1 Fr.rf (fun j hj => absurd hj (Nat.not_lt_zero j))
  obtain ⟨A5, z1, z2, z3⟩ := l3 5 0 A4 A4 rfl ((x1.mo (by decide) (by decide) (by decide)).tr (y1.mo (by decide) (by decide) (by decide))) Fr.rf (fun j hj => absurd hj (Nat.not_lt_zero j))
  have b44 : I1 81 44 = 1 := b1.symm.trans b2
  simp only [eX11_back, sX11_back_0, sX11_back_1, sX11_back_4, sX11_back_7, sX11_back_9, sX11_back_10, sX11_back_11, wo_81, wf_81_0, wv_81_0, wf_81_1, wv_81_1, wp_81_1, wf_81_2, wv_81_2, wp_81_2, wf_81_3, wv_81_3, wf_81_4, wv_81_4, wf_81_5, wv_81_5, wf_81_6, wv_81_6, wp_81_6, wf_81_7, wv_81_7, wp_81_7, wf_81_8, wv_81_8, wf_81_9, wv_81_9, wp_81_9, wf_81_10, wv_81_10, wf_81_11, wv_81_11, wp_81_11, wf_81_12, wv_81_12, wp_81_12, wf_81_13, wv_81_13, wf_81_14, wv_81_14, wp_81_14, wf_81_15, wv_81_15, wp_81_15, wf_81_16, wv_81_16, wp_81_16, wf_81_17, wv_81_17, wp_81_17, wf_81_18, wv_81_18, wf_81_19, wv_81_19, wf_81_20, wv_81_20, wf_81_21, wv_81_21, wf_81_22, wv_81_22, wf_81_23, wv_81_23, wf_81_24, wv_81_24, wf_81_25, wv_81_25, wf_81_26, wv_81_26, wf_81_27, wv_81_27, wf_81_28, wv_81_28, wf_81_29, wv_81_29, wf_81_30, wv_81_30, wf_81_31, wv_81_31, wf_81_32, wv_81_32, wf_81_33, wv_81_33, wp_81_33, wf_81_34, wv_81_34, wf_81_35, wv_81_35, wp_81_35, wf_81_36, wv_81_36, wf_81_37, wv_81_37, wp_81_37, wf_81_38, wv_81_38, wf_81_39, wv_81_39, wf_81_40, wv_81_40, wf_81_41, wv_81_41, wf_81_42, wv_81_42, wp_81_42, wf_81_43, wv_81_43, wp_81_43, wf_81_44, wv_81_44, wp_81_44, wf_81_45, wv_81_45, wf_81_46, wv_81_46, wf_81_47, wv_81_47, wf_81_48, wv_81_48, wp_81_48, wf_81_49, wv_81_49, wf_81_50, wv_81_50, wp_81_50, am_rt_some, am_rt_void, am_rt_none, am_rt_ite, ↓reduceIte, if_true, if_false, and_self, true_and, and_true, true_or, or_true, Bool.false_eq_true, reduceCtorEq, b44, e10]
  rw [show (0 : Int32) = nI 0 from rfl, x3, y3, z3]
  have F35 : Fr [] [82, 105, 106] [] I1 A1 J I1 A5 J := ((x1.mo (by decide) (by decide) (by decide)).tr (y1.mo (by decide) (by decide) (by decide))).tr (z1.mo (by decide) (by decide) (by decide))
  have F5 : Fr [(49, 2), (46, 3)] [47, 48, 50, 51, 82, 105, 106] [] I A J I1 A5 J := (F1.mo (by decide) (by decide) (by decide)).tr (F35.mo (by decide) (by decide) (by decide))
  have c43 : I1 81 43 = I 53 3 := hR.kip.1.symm
  have hb : (I 53 3 = 0 ∨ I 53 3 = 1) = True := eq_true hR.kip.2
  have o106 : A5 106 (2 : Int32).toNatClampNeg = A 109 2 := z2 2 (by decide)
  simp only [sX11_back_95, sX11_back_96, sX11_back_97, sX11_back_100, sX11_back_103, sX11_back_104, sX11_back_107, sX11_back_108, sX11_back_109, wo_81, wf_81_0, wv_81_0, wf_81_1, wv_81_1, wp_81_1, wf_81_2, wv_81_2, wp_81_2, wf_81_3, wv_81_3, wf_81_4, wv_81_4, wf_81_5, wv_81_5, wf_81_6, wv_81_6, wp_81_6, wf_81_7, wv_81_7, wp_81_7, wf_81_8, wv_81_8, wf_81_9, wv_81_9, wp_81_9, wf_81_10, wv_81_10, wf_81_11, wv_81_11, wp_81_11, wf_81_12, wv_81_12, wp_81_12, wf_81_13, wv_81_13, wf_81_14, wv_81_14, wp_81_14, wf_81_15, wv_81_15, wp_81_15, wf_81_16, wv_81_16, wp_81_16, wf_81_17, wv_81_17, wp_81_17, wf_81_18, wv_81_18, wf_81_19, wv_81_19, wf_81_20, wv_81_20, wf_81_21, wv_81_21, wf_81_22, wv_81_22, wf_81_23, wv_81_23, wf_81_24, wv_81_24, wf_81_25, wv_81_25, wf_81_26, wv_81_26, wf_81_27, wv_81_27, wf_81_28, wv_81_28, wf_81_29, wv_81_29, wf_81_30, wv_81_30, wf_81_31, wv_81_31, wf_81_32, wv_81_32, wf_81_33, wv_81_33, wp_81_33, wf_81_34, wv_81_34, wf_81_35, wv_81_35, wp_81_35, wf_81_36, wv_81_36, wf_81_37, wv_81_37, wp_81_37, wf_81_38, wv_81_38, wf_81_39, wv_81_39, wf_81_40, wv_81_40, wf_81_41, wv_81_41, wf_81_42, wv_81_42, wp_81_42, wf_81_43, wv_81_43, wp_81_43, wf_81_44, wv_81_44, wp_81_44, wf_81_45, wv_81_45, wf_81_46, wv_81_46, wf_81_47, wv_81_47, wf_81_48, wv_81_48, wp_81_48, wf_81_49, wv_81_49, wf_81_50, wv_81_50, wp_81_50, wi_106, wg_106, ws_106, ww_106, wl_106, wn_106, am_rt_some, am_rt_void, am_rt_none, am_rt_ite, ↓reduceIte, if_true, if_false, and_self, true_and, and_true, true_or, or_true, Bool.false_eq_true, reduceCtorEq, c43, hb, show am_in 2 5 = true from rfl, o106]
  refine am_T.ri ⟨G, ?_⟩
  have F : Fr [(49, 2), (46, 3), (81, 37)] [47, 48, 50, 51, 82, 105, 106] [] I A J (am_u2 I1 81 37 (I 53 3)) A5 J := (F5.mo (by decide) (by decide) (by decide)).ui (by decide)
  have k82 : A5 82 = A3 82 := (z1.a 82 (by decide)).trans (y1.a 82 (by decide))
  have k105 : ∀ j, j < 14 → A5 105 j = A 108 j := fun j hj => by rw [z1.a 105 (by decide)]; exact y2 j hj
  have same : ∀ j, (j < 40 ∨ 88 ≤ j) → A5 82 j = A 82 j := fun j hj => by rw [k82]; exact x2' j (by omega)
  have d13 : A5 13 = A 13 := F.a 13 (by decide)
  have d37 : A5 37 = A 37 := F.a 37 (by decide)
  have d38 : A5 38 = A 38 := F.a 38 (by decide)
  have p1 : rStr (A5 13) (A5 82) := fun j hj => by rw [d13, same j (by omega)]; exact hR.str j hj
  have p2 : rHas (A5 47) (A5 82) := fun j hj => by
    rw [show A5 47 = va_cpy (A 54) (A 47) 0 0 (8 * hk) from F35.a 47 (by decide), k82]
    by_cases q : j < 8 * hk
    · rw [cp_at q, x2 j q]
      exact ei j q
    · rw [x2' (40 + j) (by omega)]
      have : va_cpy (A 54) (A 47) 0 0 (8 * hk) j = A 47 j := by simp [va_cpy, q]
      rw [this]
      exact hR.has j hj
  have p3 : rFir (I1 6 2) (A5 82) := by
    show I 6 2 = A5 82 104
    rw [same 104 (by omega)]
    exact hR.fir
  have p4 : rNos (I1 36 2) (A5 37) (A5 38) (I1 81 2) (A5 82) := by
    rw [d37, d38]
    exact ⟨hR.nos.1, fun j hj => by rw [same (88 + j) (by omega), same (96 + j) (by omega)]; exact hR.nos.2 j hj⟩
  have p5 : rPot (A5 50) (I1 49 2) (A5 51) (A5 105) := by
    obtain ⟨q1, q2, q3, q4⟩ := hR.kpo
    refine ⟨fun j hj => ?_, ?_, q3, fun j hj => ?_⟩
    · rw [show A5 50 = va_cpy (A 57) (A 50) 0 0 8 from F35.a 50 (by decide), k105 j (by omega), cp_at hj]
      exact q1 j hj
    · rw [k105 8 (by omega)]; exact q2
    · rw [show A5 51 = va_cpy (A 58) (A 51) 0 0 5 from F35.a 51 (by decide), k105 (9 + j) (by omega), cp_at hj]
      exact q4 j hj
  have p6 : rLed (A5 48) (A5 106) := fun j hj => by
    rw [show A5 48 = va_cpy (A 55) (A 48) 0 0 5 from F35.a 48 (by decide), z2 j hj, cp_at hj]
    exact hR.kle j hj
  exact ⟨t_hou F (by decide) hR.hou, p4, p1, p2, p3, t_chg F (by decide) hR.chg, t_tap F (by decide) hR.tap, t_lac F (by decide) hR.lac, t_lar F (by decide) hR.lar, p5, ⟨rfl, hR.kip.2⟩, p6, t_isk F (by decide) hR.isk, t_img F (by decide) hR.img, t_kpo F (by decide) hR.kpo, t_kip F (by decide) hR.kip, t_kle F (by decide) hR.kle, t_lad F (by decide) hR.lad, t_shs F (by decide) hR.shs, t_con F (by decide) hR.con, t_loa F (by decide) hR.loa⟩
end BK

/-! image, back: both -/
section IM
variable {X : Nat × (Nat → Int32)} {d : Nat} {I A : TI} {J : TJ} {w : am_W}
theorem c_scene53 {hn : Nat} (hh : hn ≤ 6) (hb : I 46 3 = 0 ∨ I 46 3 = 1) : am_CL X (d + 2) mX7_becomes [.ref 53, .ref 46, .int (nI hn)] (am_wd I A J) = some (none, am_wd (am_u2 (am_u2 I 56 2 (I 49 2)) 53 3 (I 46 3)) (am_u (am_u (am_u (am_u A 54 (va_cpy (A 47) (A 54) 0 0 (8 * hn))) 55 (va_cpy (A 48) (A 55) 0 0 5)) 57 (va_cpy (A 50) (A 57) 0 0 8)) 58 (va_cpy (A 51) (A 58) 0 0 5)) J) := by
  have e0 : nI hn * 8 + 0 = nI (8 * hn) := by rw [show (0 : Int32) = nI 0 from rfl, i85]; congr 1
  simp only [eX7_becomes, sX7_becomes_0, sX7_becomes_1, sX7_becomes_4, sX7_becomes_5, sX7_becomes_6, sX7_becomes_9, sX7_becomes_10, sX7_becomes_11, sX7_becomes_12, wo_53, wf_53_0, wv_53_0, wf_53_1, wv_53_1, wf_53_2, wv_53_2, wf_53_3, wv_53_3, wp_53_3, wo_46, wf_46_0, wv_46_0, wf_46_1, wv_46_1, wf_46_2, wv_46_2, wf_46_3, wv_46_3, wp_46_3, am_rt_some, am_rt_void, am_rt_none, am_rt_ite, ↓reduceIte, if_true, if_false, and_self, true_and, and_true, true_or, or_true, Bool.false_eq_true, reduceCtorEq, c_larder, e0]
  rw [sX7_becomes_15 (cl := .inl (0, 48, .inl (va_cpy (A 47) (A 54) 0 0 (8 * hn)))) (by rw [wr_47, wr_54]; exact am_cpI 0 0 (8 * hn) (by omega) (by omega) (by decide) (by decide))]
  simp only [sX7_becomes_18, sX7_becomes_19, sX7_becomes_22, sX7_becomes_23, sX7_becomes_24, sX7_becomes_27, sX7_becomes_28, sX7_becomes_29, sX7_becomes_32, wo_53, wf_53_0, wv_53_0, wf_53_1, wv_53_1, wf_53_2, wv_53_2, wf_53_3, wv_53_3, wp_53_3, wo_46, wf_46_0, wv_46_0, wf_46_1, wv_46_1, wf_46_2, wv_46_2, wf_46_3, wv_46_3, wp_46_3, wi_54, wg_54, ws_54, ww_54, wl_54, wn_54, wi_55, wg_55, ws_55, ww_55, wl_55, wn_55, am_rt_some, am_rt_void, am_rt_none, am_rt_ite, ↓reduceIte, if_true, if_false, and_self, true_and, and_true, true_or, or_true, Bool.false_eq_true, reduceCtorEq]
  rw [sX7_becomes_33 (cl := .inl (0, 5, .inl (va_cpy (A 48) (A 55) 0 0 5))) (by rw [wr_48, wr_55]; exact am_cpI 0 0 5 (by decide) (by decide) (by decide) (by decide))]
  simp only [sX7_becomes_36, sX7_becomes_37, sX7_becomes_40, sX7_becomes_41, sX7_becomes_44, wo_53, wf_53_0, wv_53_0, wf_53_1, wv_53_1, wf_53_2, wv_53_2, wf_53_3, wv_53_3, wp_53_3, wo_46, wf_46_0, wv_46_0, wf_46_1, wv_46_1, wf_46_2, wv_46_2, wf_46_3, wv_46_3, wp_46_3, wi_55, wg_55, ws_55, ww_55, wl_55, wn_55, wo_56, wf_56_0, wv_56_0, wf_56_1, wv_56_1, wf_56_2, wv_56_2, wp_56_2, wf_56_3, wv_56_3, wf_56_4, wv_56_4, wp_56_4, am_rt_some, am_rt_void, am_rt_none, am_rt_ite, ↓reduceIte, if_true, if_false, and_self, true_and, and_true, true_or, or_true, Bool.false_eq_true, reduceCtorEq, eX6_becomes, sX6_becomes_0, sX6_becomes_1, sX6_becomes_4, sX6_becomes_5, sX6_becomes_6, sX6_becomes_9, sX6_becomes_10, wo_49, wf_49_0, wv_49_0, wf_49_1, wv_49_1, wf_49_2, wv_49_2, wp_49_2, wf_49_3, wv_49_3, wf_49_4, wv_49_4, wp_49_4]
  rw [sX6_becomes_12 (cl := .inl (0, 8, .inl (va_cpy (A 50) (A 57) 0 0 8))) (by rw [wr_50, wr_57]; exact am_cpI 0 0 8 (by decide) (by decide) (by decide) (by decide))]
  simp only [sX6_becomes_15, sX6_becomes_16, sX6_becomes_19, sX6_becomes_20, sX6_becomes_21, sX6_becomes_24, sX6_becomes_25, wo_56, wf_56_0, wv_56_0, wf_56_1, wv_56_1, wf_56_2, wv_56_2, wp_56_2, wf_56_3, wv_56_3, wf_56_4, wv_56_4, wp_56_4, wo_49, wf_49_0, wv_49_0, wf_49_1, wv_49_1, wf_49_2, wv_49_2, wp_49_2, wf_49_3, wv_49_3, wf_49_4, wv_49_4, wp_49_4, wi_57, wg_57, ws_57, ww_57, wl_57, wn_57, am_rt_some, am_rt_void, am_rt_none, am_rt_ite, ↓reduceIte, if_true, if_false, and_self, true_and, and_true, true_or, or_true, Bool.false_eq_true, reduceCtorEq]
  rw [sX6_becomes_26 (cl := .inl (0, 5, .inl (va_cpy (A 51) (A 58) 0 0 5))) (by rw [wr_51, wr_58]; exact am_cpI 0 0 5 (by decide) (by decide) (by decide) (by decide))]
  have hb' : (am_u2 I 56 2 (I 49 2) 46 3 = 0 ∨ am_u2 I 56 2 (I 49 2) 46 3 = 1) = True := eq_true hb
  simp only [sX6_becomes_29, sX6_becomes_30, sX6_becomes_31, sX6_becomes_34, sX6_becomes_37, wo_56, wf_56_0, wv_56_0, wf_56_1, wv_56_1, wf_56_2, wv_56_2, wp_56_2, wf_56_3, wv_56_3, wf_56_4, wv_56_4, wp_56_4, wo_49, wf_49_0, wv_49_0, wf_49_1, wv_49_1, wf_49_2, wv_49_2, wp_49_2, wf_49_3, wv_49_3, wf_49_4, wv_49_4, wp_49_4, wi_58, wg_58, ws_58, ww_58, wl_58, wn_58, am_rt_some, am_rt_void, am_rt_none, am_rt_ite, ↓reduceIte, if_true, if_false, and_self, true_and, and_true, true_or, or_true, Bool.false_eq_true, reduceCtorEq, sX7_becomes_47, sX7_becomes_48, sX7_becomes_49, sX7_becomes_52, sX7_becomes_55, wo_53, wf_53_0, wv_53_0, wf_53_1, wv_53_1, wf_53_2, wv_53_2, wf_53_3, wv_53_3, wp_53_3, wo_46, wf_46_0, wv_46_0, wf_46_1, wv_46_1, wf_46_2, wv_46_2, wf_46_3, wv_46_3, wp_46_3, hb']
  rfl
theorem c_scene46 {hn : Nat} (hh : hn ≤ 6) (hb : I 53 3 = 0 ∨ I 53 3 = 1) : am_CL X (d + 2) mX7_becomes [.ref 46, .ref 53, .int (nI hn)] (am_wd I A J) = some (none, am_wd (am_u2 (am_u2 I 49 2 (I 56 2)) 46 3 (I 53 3)) (am_u (am_u (am_u (am_u A 47 (va_cpy (A 54) (A 47) 0 0 (8 * hn))) 48 (va_cpy (A 55) (A 48) 0 0 5)) 50 (va_cpy (A 57) (A 50) 0 0 8)) 51 (va_cpy (A 58) (A 51) 0 0 5)) J) := by
  have e0 : nI hn * 8 + 0 = nI (8 * hn) := by rw [show (0 : Int32) = nI 0 from rfl, i85]; congr 1
  simp only [eX7_becomes, sX7_becomes_0, sX7_becomes_1, sX7_becomes_4, sX7_becomes_5, sX7_becomes_6, sX7_becomes_9, sX7_becomes_10, sX7_becomes_11, sX7_becomes_12, wo_46, wf_46_0, wv_46_0, wf_46_1, wv_46_1, wf_46_2, wv_46_2, wf_46_3, wv_46_3, wp_46_3, wo_53, wf_53_0, wv_53_0, wf_53_1, wv_53_1, wf_53_2, wv_53_2, wf_53_3, wv_53_3, wp_53_3, am_rt_some, am_rt_void, am_rt_none, am_rt_ite, ↓reduceIte, if_true, if_false, and_self, true_and, and_true, true_or, or_true, Bool.false_eq_true, reduceCtorEq, c_larder, e0]
  rw [sX7_becomes_15 (cl := .inl (0, 48, .inl (va_cpy (A 54) (A 47) 0 0 (8 * hn)))) (by rw [wr_54, wr_47]; exact am_cpI 0 0 (8 * hn) (by omega) (by omega) (by decide) (by decide))]
  simp only [sX7_becomes_18, sX7_becomes_19, sX7_becomes_22, sX7_becomes_23, sX7_becomes_24, sX7_becomes_27, sX7_becomes_28, sX7_becomes_29, sX7_becomes_32, wo_46, wf_46_0, wv_46_0, wf_46_1, wv_46_1, wf_46_2, wv_46_2, wf_46_3, wv_46_3, wp_46_3, wo_53, wf_53_0, wv_53_0, wf_53_1, wv_53_1, wf_53_2, wv_53_2, wf_53_3, wv_53_3, wp_53_3, wi_47, wg_47, ws_47, ww_47, wl_47, wn_47, wi_48, wg_48, ws_48, ww_48, wl_48, wn_48, am_rt_some, am_rt_void, am_rt_none, am_rt_ite, ↓reduceIte, if_true, if_false, and_self, true_and, and_true, true_or, or_true, Bool.false_eq_true, reduceCtorEq]
  rw [sX7_becomes_33 (cl := .inl (0, 5, .inl (va_cpy (A 55) (A 48) 0 0 5))) (by rw [wr_55, wr_48]; exact am_cpI 0 0 5 (by decide) (by decide) (by decide) (by decide))]
  simp only [sX7_becomes_36, sX7_becomes_37, sX7_becomes_40, sX7_becomes_41, sX7_becomes_44, wo_46, wf_46_0, wv_46_0, wf_46_1, wv_46_1, wf_46_2, wv_46_2, wf_46_3, wv_46_3, wp_46_3, wo_53, wf_53_0, wv_53_0, wf_53_1, wv_53_1, wf_53_2, wv_53_2, wf_53_3, wv_53_3, wp_53_3, wi_48, wg_48, ws_48, ww_48, wl_48, wn_48, wo_49, wf_49_0, wv_49_0, wf_49_1, wv_49_1, wf_49_2, wv_49_2, wp_49_2, wf_49_3, wv_49_3, wf_49_4, wv_49_4, wp_49_4, am_rt_some, am_rt_void, am_rt_none, am_rt_ite, ↓reduceIte, if_true, if_false, and_self, true_and, and_true, true_or, or_true, Bool.false_eq_true, reduceCtorEq, eX6_becomes, sX6_becomes_0, sX6_becomes_1, sX6_becomes_4, sX6_becomes_5, sX6_becomes_6, sX6_becomes_9, sX6_becomes_10, wo_56, wf_56_0, wv_56_0, wf_56_1, wv_56_1, wf_56_2, wv_56_2, wp_56_2, wf_56_3, wv_56_3, wf_56_4, wv_56_4, wp_56_4]
  rw [sX6_becomes_12 (cl := .inl (0, 8, .inl (va_cpy (A 57) (A 50) 0 0 8))) (by rw [wr_57, wr_50]; exact am_cpI 0 0 8 (by decide) (by decide) (by decide) (by decide))]
  simp only [sX6_becomes_15, sX6_becomes_16, sX6_becomes_19, sX6_becomes_20, sX6_becomes_21, sX6_becomes_24, sX6_becomes_25, wo_49, wf_49_0, wv_49_0, wf_49_1, wv_49_1, wf_49_2, wv_49_2, wp_49_2, wf_49_3, wv_49_3, wf_49_4, wv_49_4, wp_49_4, wo_56, wf_56_0, wv_56_0, wf_56_1, wv_56_1, wf_56_2, wv_56_2, wp_56_2, wf_56_3, wv_56_3, wf_56_4, wv_56_4, wp_56_4, wi_50, wg_50, ws_50, ww_50, wl_50, wn_50, am_rt_some, am_rt_void, am_rt_none, am_rt_ite, ↓reduceIte, if_true, if_false, and_self, true_and, and_true, true_or, or_true, Bool.false_eq_true, reduceCtorEq]
  rw [sX6_becomes_26 (cl := .inl (0, 5, .inl (va_cpy (A 58) (A 51) 0 0 5))) (by rw [wr_58, wr_51]; exact am_cpI 0 0 5 (by decide) (by decide) (by decide) (by decide))]
  have hb' : (am_u2 I 49 2 (I 56 2) 53 3 = 0 ∨ am_u2 I 49 2 (I 56 2) 53 3 = 1) = True := eq_true hb
  simp only [sX6_becomes_29, sX6_becomes_30, sX6_becomes_31, sX6_becomes_34, sX6_becomes_37, wo_49, wf_49_0, wv_49_0, wf_49_1, wv_49_1, wf_49_2, wv_49_2, wp_49_2, wf_49_3, wv_49_3, wf_49_4, wv_49_4, wp_49_4, wo_56, wf_56_0, wv_56_0, wf_56_1, wv_56_1, wf_56_2, wv_56_2, wp_56_2, wf_56_3, wv_56_3, wf_56_4, wv_56_4, wp_56_4, wi_51, wg_51, ws_51, ww_51, wl_51, wn_51, am_rt_some, am_rt_void, am_rt_none, am_rt_ite, ↓reduceIte, if_true, if_false, and_self, true_and, and_true, true_or, or_true, Bool.false_eq_true, reduceCtorEq, sX7_becomes_47, sX7_becomes_48, sX7_becomes_49, sX7_becomes_52, sX7_becomes_55, wo_46, wf_46_0, wv_46_0, wf_46_1, wv_46_1, wf_46_2, wv_46_2, wf_46_3, wv_46_3, wp_46_3, wo_53, wf_53_0, wv_53_0, wf_53_1, wv_53_1, wf_53_2, wv_53_2, wf_53_3, wv_53_3, wp_53_3, hb']
  rfl

theorem bt_image : Bt mX10_image mX11_image [] := by
  intro X d I A J ⟨G, hR⟩
  obtain ⟨hn, hn6, e1, e2⟩ := hR.hou
  refine ⟨A 48 2, ?_⟩
  simp only [eX10_image, sX10_image_0, sX10_image_1, sX10_image_4, sX10_image_5, sX10_image_8, sX10_image_9, sX10_image_12, sX10_image_15, sX10_image_16, sX10_image_17, sX10_image_20, sX10_image_23, sX10_image_24, sX10_image_25, sX10_image_28, sX10_image_29, sX10_image_32, sX10_image_35, sX10_image_36, sX10_image_36_f, sX10_image_37, wo_0, wf_0_0, wv_0_0, wf_0_1, wv_0_1, wf_0_2, wv_0_2, wf_0_3, wv_0_3, wf_0_4, wv_0_4, wf_0_5, wv_0_5, wf_0_6, wv_0_6, wf_0_7, wv_0_7, wf_0_8, wv_0_8, wf_0_9, wv_0_9, wp_0_9, wf_0_10, wv_0_10, wp_0_10, wf_0_11, wv_0_11, wp_0_11, wo_46, wf_46_0, wv_46_0, wf_46_1, wv_46_1, wf_46_2, wv_46_2, wf_46_3, wv_46_3, wp_46_3, wi_48, wg_48, ws_48, ww_48, wl_48, wn_48, am_rt_some, am_rt_void, am_rt_none, am_rt_ite, ↓reduceIte, if_true, if_false, and_self, true_and, and_true, true_or, or_true, Bool.false_eq_true, reduceCtorEq, e1, c_scene53 hn6 hR.isp.2, not_true_eq_false, not_false_eq_true, false_and, and_false, true_and, and_true, and_self, or_self, true_or, or_true, false_or, or_false, ite_self, kEm14_m11, kEm14_m2, kEm14_m1, kEm14_0, kEm14_1, kEm14_2, kEm14_3, kEm14_4, kEm13_m11, kEm13_m2, kEm13_m1, kEm13_0, kEm13_1, kEm13_2, kEm13_3, kEm13_4, kEm12_m11, kEm12_m2, kEm12_m1, kEm12_0, kEm12_1, kEm12_2, kEm12_3, kEm12_4, kEm11_m2, kEm11_m1, kEm11_0, kEm11_1, kEm11_2, kEm11_3, kEm11_4, kEm5_m11, kEm5_m2, kEm5_m1, kEm5_0, kEm5_1, kEm5_2, kEm5_3, kEm5_4, kEm3_m11, kEm3_m2, kEm3_m1, kEm3_0, kEm3_1, kEm3_2, kEm3_3, kEm3_4, kEm2_m11, kEm2_m1, kEm2_0, kEm2_1, kEm2_2, kEm2_3, kEm2_4, kEm1_m11, kEm1_m2, kEm1_0, kEm1_1, kEm1_2, kEm1_3, kEm1_4, kE0_m11, kE0_m2, kE0_m1, kE0_1, kE0_2, kE0_3, kE0_4, kE1_m11, kE1_m2, kE1_m1, kE1_0, kE1_2, kE1_3, kE1_4, kE2_m11, kE2_m2, kE2_m1, kE2_0, kE2_1, kE2_3, kE2_4, kE3_m11, kE3_m2, kE3_m1, kE3_0, kE3_1, kE3_2, kE3_4, kE4_m11, kE4_m2, kE4_m1, kE4_0, kE4_1, kE4_2, kE4_3, kE5_m11, kE5_m2, kE5_m1, kE5_0, kE5_1, kE5_2, kE5_3, kE5_4, kE6_m11, kE6_m2, kE6_m1, kE6_0, kE6_1, kE6_2, kE6_3, kE6_4, kE7_m11, kE7_m2, kE7_m1, kE7_0, kE7_1, kE7_2, kE7_3, kE7_4, kE8_m11, kE8_m2, kE8_m1, kE8_0, kE8_1, kE8_2, kE8_3, kE8_4, kLm14_0, kLm14_1, kLm13_0, kLm13_1, kLm12_0, kLm12_1, kLm11_0, kLm11_1, kLm5_0, kLm5_1, kLm3_0, kLm3_1, kLm2_0, kLm2_1, kLm1_0, kLm1_1, kL0_0, kL0_1, kL1_0, kL1_1, kL2_0, kL2_1, kL3_0, kL3_1, kL4_0, kL4_1, kL5_0, kL5_1, kL6_0, kL6_1, kL7_0, kL7_1, kL8_0, kL8_1, show am_in 2 5 = true from rfl, show am_u2 (am_u2 I 56 2 (I 49 2)) 53 3 (I 46 3) 0 9 = nI hn from e1]
  refine am_T.ri ?_
  let I1 : TI := am_u2 (am_u2 (am_u2 (am_u2 I 56 2 (I 49 2)) 53 3 (I 46 3)) 0 10 (nI hn)) 0 11 1
  let A1 : TI := am_u (am_u (am_u (am_u A 54 (va_cpy (A 47) (A 54) 0 0 (8 * hn))) 55 (va_cpy (A 48) (A 55) 0 0 5)) 57 (va_cpy (A 50) (A 57) 0 0 8)) 58 (va_cpy (A 51) (A 58) 0 0 5)
  show am_T (am_CL X (d + 60) mX11_image [.ref 81] (am_wd I1 A1 J)) (oI (A 48 2) RelE)
  have F1 : Fr [(56, 2), (53, 3), (0, 10), (0, 11)] [54, 55, 57, 58] [] I A J I1 A1 J := by
    show Fr _ _ _ I A J (am_u2 (am_u2 (am_u2 (am_u2 I 56 2 (I 49 2)) 53 3 (I 46 3)) 0 10 (nI hn)) 0 11 1) (am_u (am_u (am_u (am_u A 54 (va_cpy (A 47) (A 54) 0 0 (8 * hn))) 55 (va_cpy (A 48) (A 55) 0 0 5)) 57 (va_cpy (A 50) (A 57) 0 0 8)) 58 (va_cpy (A 51) (A 58) 0 0 5)) J
    exact (by repeat' (first | exact Fr.rf | assumption | refine Fr.ua ?_ ?_ | refine Fr.ui ?_ ?_ | refine Fr.uj ?_ ?_ | decide))
  have b82 : A1 82 = A 82 := rfl
  have b105 : A1 105 = A 105 := rfl
  have b106 : A1 106 = A 106 := rfl
  -- the rows are kept
  have l1 : ∀ (m t : Nat) (A2 : TI), t + m = 48 → Fr [] [107] [] I1 A1 J I1 A2 J → (∀ j, j < t → A2 107 j = A 82 (40 + j)) → ∃ A3 : TI, Fr [] [107] [] I1 A1 J I1 A3 J ∧ (∀ j, j < 48 → A3 107 j = A 82 (40 + j)) ∧ am_EV X (d + 59) mX11_image 2 [.ref 81, .int (nI t)] [] (am_wd I1 A2 J) = am_EV X (d + 59) mX11_image 31 [.ref 81, .int (nI 0)] [] (am_wd I1 A3 J) := by
    intro m
    induction m with
    | zero =>
      intro t A2 ht f g
      have t48 : t = 48 := by omega
      subst t48
      exact ⟨A2, f, g, by simp only [sX11_image_2, sX11_image_3, sX11_image_5, sX11_image_29, sX11_image_30, am_rt_some, am_rt_void, am_rt_none, am_rt_ite, ↓reduceIte, if_true, if_false, and_self, true_and, and_true, true_or, or_true, Bool.false_eq_true, reduceCtorEq, show (nI 48 < 48) = False by decide]; rfl⟩
    | succ m ih =>
      intro t A2 ht f g
      have hlt : (nI t < 48) = True := by rw [am_nlit (x := 48) 48 rfl (show t < 2147483648 by omega) (by decide)]; exact eq_true (by omega)
      have i4 : (40 : Int32) + nI t = nI (40 + t) := i_add 40 t
      have o82 : A2 82 (40 + t) = A 82 (40 + t) := by rw [f.a 82 (by decide), b82]
      obtain ⟨A3, x1, x2, x3⟩ := ih (t + 1) (am_u A2 107 (upd (A2 107) t (A 82 (40 + t)))) (by omega) (f.ua (by decide)) (fun j hj => by
        rw [am_u_at]
        by_cases y : j = t
        · subst y; rw [upd_at]
        · rw [upd_ne y]; exact g j (by omega))
      refine ⟨A3, x1, x2, ?_⟩
      rw [← x3, sX11_image_2]
      simp only [sX11_image_3, sX11_image_5, sX11_image_8, sX11_image_9, sX11_image_12, sX11_image_13, sX11_image_14, sX11_image_17, sX11_image_19, sX11_image_20, sX11_image_21, sX11_image_22, sX11_image_23, sX11_image_26, wo_81, wf_81_0, wv_81_0, wf_81_1, wv_81_1, wp_81_1, wf_81_2, wv_81_2, wp_81_2, wf_81_3, wv_81_3, wf_81_4, wv_81_4, wf_81_5, wv_81_5, wf_81_6, wv_81_6, wp_81_6, wf_81_7, wv_81_7, wp_81_7, wf_81_8, wv_81_8, wf_81_9, wv_81_9, wp_81_9, wf_81_10, wv_81_10, wf_81_11, wv_81_11, wp_81_11, wf_81_12, wv_81_12, wp_81_12, wf_81_13, wv_81_13, wf_81_14, wv_81_14, wp_81_14, wf_81_15, wv_81_15, wp_81_15, wf_81_16, wv_81_16, wp_81_16, wf_81_17, wv_81_17, wp_81_17, wf_81_18, wv_81_18, wf_81_19, wv_81_19, wf_81_20, wv_81_20, wf_81_21, wv_81_21, wf_81_22, wv_81_22, wf_81_23, wv_81_23, wf_81_24, wv_81_24, wf_81_25, wv_81_25, wf_81_26, wv_81_26, wf_81_27, wv_81_27, wf_81_28, wv_81_28, wf_81_29, wv_81_29, wf_81_30, wv_81_30, wf_81_31, wv_81_31, wf_81_32, wv_81_32, wf_81_33, wv_81_33, wp_81_33, wf_81_34, wv_81_34, wf_81_35, wv_81_35, wp_81_35, wf_81_36, wv_81_36, wf_81_37, wv_81_37, wp_81_37, wf_81_38, wv_81_38, wf_81_39, wv_81_39, wf_81_40, wv_81_40, wf_81_41, wv_81_41, wf_81_42, wv_81_42, wp_81_42, wf_81_43, wv_81_43, wp_81_43, wf_81_44, wv_81_44, wp_81_44, wf_81_45, wv_81_45, wf_81_46, wv_81_46, wf_81_47, wv_81_47, wf_81_48, wv_81_48, wp_81_48, wf_81_49, wv_81_49, wf_81_50, wv_81_50, wp_81_50, wi_82, wg_82, ws_82, ww_82, wl_82, wn_82, wi_107, wg_107, ws_107, ww_107, wl_107, wn_107, am_rt_some, am_rt_void, am_rt_none, am_rt_ite, ↓reduceIte, if_true, if_false, and_self, true_and, and_true, true_or, or_true, Bool.false_eq_true, reduceCtorEq, hlt, i4, am_nin (show t < 48 by omega) (show (48 : Nat) < 2147483648 by omega), am_nin (show 40 + t < 105 by omega) (show (105 : Nat) < 2147483648 by omega), am_ncl (show t < 2147483648 by omega), am_ncl (show 40 + t < 2147483648 by omega), o82, am_n1]
  have l2 : ∀ (m t : Nat) (A0 A2 : TI), t + m = 14 → Fr [] [107] [] I1 A1 J I1 A0 J → Fr [] [108] [] I1 A0 J I1 A2 J → (∀ j, j < t → A2 108 j = A 105 j) → ∃ A3 : TI, Fr [] [108] [] I1 A0 J I1 A3 J ∧ (∀ j, j < 14 → A3 108 j = A 105 j) ∧ am_EV X (d + 59) mX11_image 31 [.ref 81, .int (nI t)] [] (am_wd I1 A2 J) = am_EV X (d + 59) mX11_image 57 [.ref 81, .int (nI 0)] [] (am_wd I1 A3 J) := by
    intro m
    induction m with
    | zero =>
      intro t A0 A2 ht f0 f g
      have t14 : t = 14 := by omega
      subst t14
      exact ⟨A2, f, g, by simp only [sX11_image_31, sX11_image_32, sX11_image_34, sX11_image_55, sX11_image_56, am_rt_some, am_rt_void, am_rt_none, am_rt_ite, ↓reduceIte, if_true, if_false, and_self, true_and, and_true, true_or, or_true, Bool.false_eq_true, reduceCtorEq, show (nI 14 < 14) = False by decide]; rfl⟩
    | succ m ih =>
      intro t A0 A2 ht f0 f g
      have hlt : (nI t < 14) = True := by rw [am_nlit (x := 14) 14 rfl (show t < 2147483648 by omega) (by decide)]; exact eq_true (by omega)
      have o105 : A2 105 t = A 105 t := by rw [f.a 105 (by decide), f0.a 105 (by decide), b105]
      obtain ⟨A3, x1, x2, x3⟩ := ih (t + 1) A0 (am_u A2 108 (upd (A2 108) t (A 105 t))) (by omega) f0 (f.ua (by decide)) (fun j hj => by
        rw [am_u_at]
        by_cases y : j = t
        · subst y; rw [upd_at]
        · rw [upd_ne y]; exact g j (by omega))
      refine ⟨A3, x1, x2, ?_⟩
      rw [← x3, sX11_image_31]
      simp only [sX11_image_32, sX11_image_34, sX11_image_37, sX11_image_38, sX11_image_41, sX11_image_42, sX11_image_43, sX11_image_46, sX11_image_47, sX11_image_48, sX11_image_49, sX11_image_52, wo_81, wf_81_0, wv_81_0, wf_81_1, wv_81_1, wp_81_1, wf_81_2, wv_81_2, wp_81_2, wf_81_3, wv_81_3, wf_81_4, wv_81_4, wf_81_5, wv_81_5, wf_81_6, wv_81_6, wp_81_6, wf_81_7, wv_81_7, wp_81_7, wf_81_8, wv_81_8, wf_81_9, wv_81_9, wp_81_9, wf_81_10, wv_81_10, wf_81_11, wv_81_11, wp_81_11, wf_81_12, wv_81_12, wp_81_12, wf_81_13, wv_81_13, wf_81_14, wv_81_14, wp_81_14, wf_81_15, wv_81_15, wp_81_15, wf_81_16, wv_81_16, wp_81_16, wf_81_17, wv_81_17, wp_81_17, wf_81_18, wv_81_18, wf_81_19, wv_81_19, wf_81_20, wv_81_20, wf_81_21, wv_81_21, wf_81_22, wv_81_22, wf_81_23, wv_81_23, wf_81_24, wv_81_24, wf_81_25, wv_81_25, wf_81_26, wv_81_26, wf_81_27, wv_81_27, wf_81_28, wv_81_28, wf_81_29, wv_81_29, wf_81_30, wv_81_30, wf_81_31, wv_81_31, wf_81_32, wv_81_32, wf_81_33, wv_81_33, wp_81_33, wf_81_34, wv_81_34, wf_81_35, wv_81_35, wp_81_35, wf_81_36, wv_81_36, wf_81_37, wv_81_37, wp_81_37, wf_81_38, wv_81_38, wf_81_39, wv_81_39, wf_81_40, wv_81_40, wf_81_41, wv_81_41, wf_81_42, wv_81_42, wp_81_42, wf_81_43, wv_81_43, wp_81_43, wf_81_44, wv_81_44, wp_81_44, wf_81_45, wv_81_45, wf_81_46, wv_81_46, wf_81_47, wv_81_47, wf_81_48, wv_81_48, wp_81_48, wf_81_49, wv_81_49, wf_81_50, wv_81_50, wp_81_50, wi_105, wg_105, ws_105, ww_105, wl_105, wn_105, wi_108, wg_108, ws_108, ww_108, wl_108, wn_108, am_rt_some, am_rt_void, am_rt_none, am_rt_ite, ↓reduceIte, if_true, if_false, and_self, true_and, and_true, true_or, or_true, Bool.false_eq_true, reduceCtorEq, hlt, am_nin (show t < 14 by omega) (show (14 : Nat) < 2147483648 by omega), am_ncl (show t < 2147483648 by omega), o105, am_n1]
  have l3 : ∀ (m t : Nat) (A0 A2 : TI), t + m = 5 → Fr [] [107, 108] [] I1 A1 J I1 A0 J → Fr [] [109] [] I1 A0 J I1 A2 J → (∀ j, j < t → A2 109 j = A 106 j) → ∃ A3 : TI, Fr [] [109] [] I1 A0 J I1 A3 J ∧ (∀ j, j < 5 → A3 109 j = A 106 j) ∧ am_EV X (d + 59) mX11_image 57 [.ref 81, .int (nI t)] [] (am_wd I1 A2 J) = am_EV X (d + 59) mX11_image 80 [.ref 81, .int (nI 5)] [] (am_wd I1 A3 J) := by
    intro m
    induction m with
    | zero =>
      intro t A0 A2 ht f0 f g
      have t5 : t = 5 := by omega
      subst t5
      exact ⟨A2, f, g, by simp only [sX11_image_57, sX11_image_58, sX11_image_59, am_rt_some, am_rt_void, am_rt_none, am_rt_ite, ↓reduceIte, if_true, if_false, and_self, true_and, and_true, true_or, or_true, Bool.false_eq_true, reduceCtorEq, show (nI 5 < 5) = False by decide]⟩
    | succ m ih =>
      intro t A0 A2 ht f0 f g
      have hlt : (nI t < 5) = True := by rw [am_nlit (x := 5) 5 rfl (show t < 2147483648 by omega) (by decide)]; exact eq_true (by omega)
      have o106 : A2 106 t = A 106 t := by rw [f.a 106 (by decide), f0.a 106 (by decide), b106]
      obtain ⟨A3, x1, x2, x3⟩ := ih (t + 1) A0 (am_u A2 109 (upd (A2 109) t (A 106 t))) (by omega) f0 (f.ua (by decide)) (fun j hj => by
        rw [am_u_at]
        by_cases y : j = t
        · subst y; rw [upd_at]
        · rw [upd_ne y]; exact g j (by omega))
      refine ⟨A3, x1, x2, ?_⟩
      rw [← x3, sX11_image_57]
      simp only [sX11_image_58, sX11_image_59, sX11_image_62, sX11_image_63, sX11_image_66, sX11_image_67, sX11_image_68, sX11_image_71, sX11_image_72, sX11_image_73, sX11_image_74, sX11_image_77, wo_81, wf_81_0, wv_81_0, wf_81_1, wv_81_1, wp_81_1, wf_81_2, wv_81_2, wp_81_2, wf_81_3, wv_81_3, wf_81_4, wv_81_4, wf_81_5, wv_81_5, wf_81_6, wv_81_6, wp_81_6, wf_81_7, wv_81_7, wp_81_7, wf_81_8, wv_81_8, wf_81_9, wv_81_9, wp_81_9, wf_81_10, wv_81_10, wf_81_11, wv_81_11, wp_81_11, wf_81_12, wv_81_12, wp_81_12, wf_81_13, wv_81_13, wf_81_14, wv_81_14, wp_81_14, wf_81_15, wv_81_15, wp_81_15, wf_81_16, wv_81_16, wp_81_16, wf_81_17, wv_81_17, wp_81_17, wf_81_18, wv_81_18, wf_81_19, wv_81_19, wf_81_20, wv_81_20, wf_81_21, wv_81_21, wf_81_22, wv_81_22, wf_81_23, wv_81_23, wf_81_24, wv_81_24, wf_81_25, wv_81_25, wf_81_26, wv_81_26, wf_81_27, wv_81_27, wf_81_28, wv_81_28, wf_81_29, wv_81_29, wf_81_30, wv_81_30, wf_81_31, wv_81_31, wf_81_32, wv_81_32, wf_81_33, wv_81_33, wp_81_33, wf_81_34, wv_81_34, wf_81_35, wv_81_35, wp_81_35, wf_81_36, wv_81_36, wf_81_37, wv_81_37, wp_81_37, wf_81_38, wv_81_38, wf_81_39, wv_81_39, wf_81_40, wv_81_40, wf_81_41, wv_81_41, wf_81_42, wv_81_42, wp_81_42, wf_81_43, wv_81_43, wp_81_43, wf_81_44, wv_81_44, wp_81_44, wf_81_45, wv_81_45, wf_81_46, wv_81_46, wf_81_47, wv_81_47, wf_81_48, wv_81_48, wp_81_48, wf_81_49, wv_81_49, wf_81_50, wv_81_50, wp_81_50, wi_106, wg_106, ws_106, ww_106, wl_106, wn_106, wi_109, wg_109, ws_109, ww_109, wl_109, wn_109, am_rt_some, am_rt_void, am_rt_none, am_rt_ite, ↓reduceIte, if_true, if_false, and_self, true_and, and_true, true_or, or_true, Bool.false_eq_true, reduceCtorEq, hlt, am_nin (show t < 5 by omega) (show (5 : Nat) < 2147483648 by omega), am_ncl (show t < 2147483648 by omega), o106, am_n1]
  obtain ⟨A3, x1, x2, x3⟩ := l1 48 0 A1 rfl Fr.rf (fun j hj => absurd hj (Nat.not_lt_zero j))
  obtain ⟨A4, y1, y2, y3⟩ := l2 14 0 A3 A3 rfl x1 Fr.rf (fun j hj => absurd hj (Nat.not_lt_zero j))
  obtain ⟨A5, z1, z2, z3⟩ := l3 5 0 A4 A4 rfl ((x1.mo (by decide) (by decide) (by decide)).tr (y1.mo (by decide) (by decide) (by decide))) Fr.rf (fun j hj => absurd hj (Nat.not_lt_zero j))
  rw [eX11_image, sX11_image_0, sX11_image_1, show (0 : Int32) = nI 0 from rfl, x3, y3, z3]
  have F5 : Fr [(56, 2), (53, 3), (0, 10), (0, 11)] [54, 55, 57, 58, 107, 108, 109] [] I A J I1 A5 J := (((F1.mo (by decide) (by decide) (by decide)).tr (x1.mo (by decide) (by decide) (by decide))).tr (y1.mo (by decide) (by decide) (by decide))).tr (z1.mo (by decide) (by decide) (by decide))
  have c1 : I1 81 1 = nI hn := e2
  have c37 : ∀ y, am_u2 I1 81 42 y 81 37 = I 46 3 := fun y => hR.isp.1.symm
  have o106 : A5 106 = A 106 := F5.a 106 (by decide)
  have hb : (I 46 3 = 0 ∨ I 46 3 = 1) = True := eq_true hR.isp.2
  simp only [sX11_image_80, sX11_image_81, sX11_image_82, sX11_image_85, sX11_image_88, sX11_image_89, sX11_image_90, sX11_image_93, sX11_image_96, sX11_image_97, sX11_image_98, sX11_image_101, sX11_image_102, sX11_image_105, sX11_image_106, sX11_image_107, wo_81, wf_81_0, wv_81_0, wf_81_1, wv_81_1, wp_81_1, wf_81_2, wv_81_2, wp_81_2, wf_81_3, wv_81_3, wf_81_4, wv_81_4, wf_81_5, wv_81_5, wf_81_6, wv_81_6, wp_81_6, wf_81_7, wv_81_7, wp_81_7, wf_81_8, wv_81_8, wf_81_9, wv_81_9, wp_81_9, wf_81_10, wv_81_10, wf_81_11, wv_81_11, wp_81_11, wf_81_12, wv_81_12, wp_81_12, wf_81_13, wv_81_13, wf_81_14, wv_81_14, wp_81_14, wf_81_15, wv_81_15, wp_81_15, wf_81_16, wv_81_16, wp_81_16, wf_81_17, wv_81_17, wp_81_17, wf_81_18, wv_81_18, wf_81_19, wv_81_19, wf_81_20, wv_81_20, wf_81_21, wv_81_21, wf_81_22, wv_81_22, wf_81_23, wv_81_23, wf_81_24, wv_81_24, wf_81_25, wv_81_25, wf_81_26, wv_81_26, wf_81_27, wv_81_27, wf_81_28, wv_81_28, wf_81_29, wv_81_29, wf_81_30, wv_81_30, wf_81_31, wv_81_31, wf_81_32, wv_81_32, wf_81_33, wv_81_33, wp_81_33, wf_81_34, wv_81_34, wf_81_35, wv_81_35, wp_81_35, wf_81_36, wv_81_36, wf_81_37, wv_81_37, wp_81_37, wf_81_38, wv_81_38, wf_81_39, wv_81_39, wf_81_40, wv_81_40, wf_81_41, wv_81_41, wf_81_42, wv_81_42, wp_81_42, wf_81_43, wv_81_43, wp_81_43, wf_81_44, wv_81_44, wp_81_44, wf_81_45, wv_81_45, wf_81_46, wv_81_46, wf_81_47, wv_81_47, wf_81_48, wv_81_48, wp_81_48, wf_81_49, wv_81_49, wf_81_50, wv_81_50, wp_81_50, wi_106, wg_106, ws_106, ww_106, wl_106, wn_106, am_rt_some, am_rt_void, am_rt_none, am_rt_ite, ↓reduceIte, if_true, if_false, and_self, true_and, and_true, true_or, or_true, Bool.false_eq_true, reduceCtorEq, c1, c37, hb, show ((1 : Int32) = 0 ∨ (1 : Int32) = 1) = True by decide, show am_in 2 5 = true from rfl, o106]
  refine am_T.ri' (hR.led 2 (by decide)).symm ⟨G, ?_⟩
  have F : Fr [(56, 2), (53, 3), (0, 10), (0, 11), (81, 42), (81, 43), (81, 44)] [54, 55, 57, 58, 107, 108, 109] [] I A J (am_u2 (am_u2 (am_u2 I1 81 42 (nI hn)) 81 43 (I 46 3)) 81 44 1) A5 J := ((((F5.mo (by decide) (by decide) (by decide)).ui (by decide)).ui (by decide)).ui (by decide))
  have k107 : ∀ j, j < 48 → A5 107 j = A 82 (40 + j) := fun j hj => by rw [z1.a 107 (by decide), y1.a 107 (by decide)]; exact x2 j hj
  have k108 : ∀ j, j < 14 → A5 108 j = A 105 j := fun j hj => by rw [z1.a 108 (by decide)]; exact y2 j hj
  have F35 : Fr [] [107, 108, 109] [] I1 A1 J I1 A5 J := ((x1.mo (by decide) (by decide) (by decide)).tr (y1.mo (by decide) (by decide) (by decide))).tr (z1.mo (by decide) (by decide) (by decide))
  have cl : ∀ c, c ∉ [107, 108, 109] → A5 c = A1 c := fun c hc => F35.a c hc
  have p1 : rImg (I1 0 10) (nI hn) (A5 54) (A5 107) := ⟨hn, hn6, rfl, rfl, fun j hj => by
    rw [cl 54 (by decide), k107 j (by omega)]
    show va_cpy (A 47) (A 54) 0 0 (8 * hn) j = _ ∧ in09 (va_cpy (A 47) (A 54) 0 0 (8 * hn) j)
    rw [cp_at hj]
    exact hR.has j (by omega)⟩
  have p2 : rPot (A5 57) (I1 56 2) (A5 58) (A5 108) := by
    obtain ⟨q1, q2, q3, q4⟩ := hR.pot
    refine ⟨fun j hj => ?_, ?_, q3, fun j hj => ?_⟩
    · rw [cl 57 (by decide), k108 j (by omega)]
      show va_cpy (A 50) (A 57) 0 0 8 j = _ ∧ in09 (va_cpy (A 50) (A 57) 0 0 8 j)
      rw [cp_at hj]
      exact q1 j hj
    · rw [k108 8 (by omega)]; exact q2
    · rw [cl 58 (by decide), k108 (9 + j) (by omega)]
      show va_cpy (A 51) (A 58) 0 0 5 j = _ ∧ in99 (va_cpy (A 51) (A 58) 0 0 5 j)
      rw [cp_at hj]
      exact q4 j hj
  have p3 : rLed (A5 55) (A5 109) := fun j hj => by
    rw [cl 55 (by decide), z2 j hj]
    show va_cpy (A 48) (A 55) 0 0 5 j = _
    rw [cp_at hj]
    exact hR.led j hj
  exact ⟨t_hou F (by decide) hR.hou, t_nos F (by decide) hR.nos, t_str F (by decide) hR.str, t_has F (by decide) hR.has, t_fir F (by decide) hR.fir, t_chg F (by decide) hR.chg, t_tap F (by decide) hR.tap, t_lac F (by decide) hR.lac, t_lar F (by decide) hR.lar, t_pot F (by decide) hR.pot, t_isp F (by decide) hR.isp, t_led F (by decide) hR.led, ⟨rfl, Or.inr rfl⟩, p1, p2, ⟨rfl, hR.isp.2⟩, p3, t_lad F (by decide) hR.lad, t_shs F (by decide) hR.shs, t_con F (by decide) hR.con, t_loa F (by decide) hR.loa⟩
end IM

/-! minute: both -/
section MI
variable {X : Nat × (Nat → Int32)} {d : Nat} {I A : TI} {J : TJ} {w : am_W}
theorem cl99_in (x : Int32) : in99 (cl99 x) := by
  unfold cl99
  have e0 : (0 : Int32).toInt = 0 := rfl
  have e99 : (99 : Int32).toInt = 99 := rfl
  by_cases q : x < 99
  · rw [if_pos q]
    by_cases p : 0 < x
    · rw [if_pos p]
      rw [Int32.lt_iff_toInt_lt] at q p
      exact ⟨fun y => by rw [Int32.lt_iff_toInt_lt] at y; omega, fun y => by rw [Int32.lt_iff_toInt_lt] at y; omega⟩
    · rw [if_neg p]; exact ⟨by decide, by decide⟩
  · rw [if_neg q]; exact ⟨by decide, by decide⟩
theorem mn99_in {x : Int32} (h : in99 x) : in99 (mn99 x) := by
  obtain ⟨a, ha, rfl⟩ := i_ofle (n := 99) (by decide) h.1 h.2
  by_cases q : a < 99
  · rw [mn99_n q]
    exact ⟨nI_pos (by omega), nI_nlt (a := 99) (b := a + 1) (by omega) (by decide)⟩
  · have : a = 99 := by omega
    subst this; exact ⟨by decide, by decide⟩
theorem bt_minute : Bt mX10_minute mX11_minute [] := by
  intro X d I A J ⟨G, hR⟩
  have e10 : ((1 : Int32) = 0) = False := by decide
  rcases hR.isp.2 with ip | ip
  · refine ⟨-5, ?_⟩
    have ip2 : I 81 37 = 0 := hR.isp.1.symm.trans ip
    simp only [eX10_minute, sX10_minute_0, sX10_minute_1, sX10_minute_4, sX10_minute_7, sX10_minute_10, sX10_minute_12, wo_0, wf_0_0, wv_0_0, wf_0_1, wv_0_1, wf_0_2, wv_0_2, wf_0_3, wv_0_3, wf_0_4, wv_0_4, wf_0_5, wv_0_5, wf_0_6, wv_0_6, wf_0_7, wv_0_7, wf_0_8, wv_0_8, wf_0_9, wv_0_9, wp_0_9, wf_0_10, wv_0_10, wp_0_10, wf_0_11, wv_0_11, wp_0_11, wo_46, wf_46_0, wv_46_0, wf_46_1, wv_46_1, wf_46_2, wv_46_2, wf_46_3, wv_46_3, wp_46_3, am_rt_some, am_rt_void, am_rt_none, am_rt_ite, ↓reduceIte, if_true, if_false, and_self, true_and, and_true, true_or, or_true, Bool.false_eq_true, reduceCtorEq, ip]
    refine am_T.ri ?_
    simp only [eX11_minute, sX11_minute_0, sX11_minute_1, sX11_minute_4, sX11_minute_7, sX11_minute_9, wo_81, wf_81_0, wv_81_0, wf_81_1, wv_81_1, wp_81_1, wf_81_2, wv_81_2, wp_81_2, wf_81_3, wv_81_3, wf_81_4, wv_81_4, wf_81_5, wv_81_5, wf_81_6, wv_81_6, wp_81_6, wf_81_7, wv_81_7, wp_81_7, wf_81_8, wv_81_8, wf_81_9, wv_81_9, wp_81_9, wf_81_10, wv_81_10, wf_81_11, wv_81_11, wp_81_11, wf_81_12, wv_81_12, wp_81_12, wf_81_13, wv_81_13, wf_81_14, wv_81_14, wp_81_14, wf_81_15, wv_81_15, wp_81_15, wf_81_16, wv_81_16, wp_81_16, wf_81_17, wv_81_17, wp_81_17, wf_81_18, wv_81_18, wf_81_19, wv_81_19, wf_81_20, wv_81_20, wf_81_21, wv_81_21, wf_81_22, wv_81_22, wf_81_23, wv_81_23, wf_81_24, wv_81_24, wf_81_25, wv_81_25, wf_81_26, wv_81_26, wf_81_27, wv_81_27, wf_81_28, wv_81_28, wf_81_29, wv_81_29, wf_81_30, wv_81_30, wf_81_31, wv_81_31, wf_81_32, wv_81_32, wf_81_33, wv_81_33, wp_81_33, wf_81_34, wv_81_34, wf_81_35, wv_81_35, wp_81_35, wf_81_36, wv_81_36, wf_81_37, wv_81_37, wp_81_37, wf_81_38, wv_81_38, wf_81_39, wv_81_39, wf_81_40, wv_81_40, wf_81_41, wv_81_41, wf_81_42, wv_81_42, wp_81_42, wf_81_43, wv_81_43, wp_81_43, wf_81_44, wv_81_44, wp_81_44, wf_81_45, wv_81_45, wf_81_46, wv_81_46, wf_81_47, wv_81_47, wf_81_48, wv_81_48, wp_81_48, wf_81_49, wv_81_49, wf_81_50, wv_81_50, wp_81_50, am_rt_some, am_rt_void, am_rt_none, am_rt_ite, ↓reduceIte, if_true, if_false, and_self, true_and, and_true, true_or, or_true, Bool.false_eq_true, reduceCtorEq, ip2]
    exact am_T.ri ⟨G, hR⟩
  have ip2 : I 81 37 = 1 := hR.isp.1.symm.trans ip
  obtain ⟨q1, q2, q3, q4⟩ := hR.pot
  refine ⟨mn99 (I 49 2), ?_⟩
  simp only [eX10_minute, sX10_minute_0, sX10_minute_1, sX10_minute_4, sX10_minute_7, sX10_minute_10, sX10_minute_12, sX10_minute_13, sX10_minute_14, sX10_minute_17, sX10_minute_20, sX10_minute_21, sX10_minute_24, sX10_minute_27, wo_0, wf_0_0, wv_0_0, wf_0_1, wv_0_1, wf_0_2, wv_0_2, wf_0_3, wv_0_3, wf_0_4, wv_0_4, wf_0_5, wv_0_5, wf_0_6, wv_0_6, wf_0_7, wv_0_7, wf_0_8, wv_0_8, wf_0_9, wv_0_9, wp_0_9, wf_0_10, wv_0_10, wp_0_10, wf_0_11, wv_0_11, wp_0_11, wo_46, wf_46_0, wv_46_0, wf_46_1, wv_46_1, wf_46_2, wv_46_2, wf_46_3, wv_46_3, wp_46_3, wo_6, wf_6_0, wv_6_0, wf_6_1, wv_6_1, wf_6_2, wv_6_2, wp_6_2, wf_6_3, wv_6_3, wf_6_4, wv_6_4, wf_6_5, wv_6_5, wf_6_6, wv_6_6, wp_6_6, wo_49, wf_49_0, wv_49_0, wf_49_1, wv_49_1, wf_49_2, wv_49_2, wp_49_2, wf_49_3, wv_49_3, wf_49_4, wv_49_4, wp_49_4, am_rt_some, am_rt_void, am_rt_none, am_rt_ite, ↓reduceIte, if_true, if_false, and_self, true_and, and_true, true_or, or_true, Bool.false_eq_true, reduceCtorEq, ip, e10, if_false]
  refine am_T.rtU (c_weigh49 (fun j hj => (q1 j hj).2)) ?_
  intro I1 A1 J1 ⟨f1, g1, g2⟩
  simp only [sX10_minute_30, sX10_minute_31, sX10_minute_34, sX10_minute_37, sX10_minute_38, sX10_minute_39, sX10_minute_40, sX10_minute_43, sX10_minute_46, sX10_minute_47, sX10_minute_50, sX10_minute_53, wo_0, wf_0_0, wv_0_0, wf_0_1, wv_0_1, wf_0_2, wv_0_2, wf_0_3, wv_0_3, wf_0_4, wv_0_4, wf_0_5, wv_0_5, wf_0_6, wv_0_6, wf_0_7, wv_0_7, wf_0_8, wv_0_8, wf_0_9, wv_0_9, wp_0_9, wf_0_10, wv_0_10, wp_0_10, wf_0_11, wv_0_11, wp_0_11, wo_46, wf_46_0, wv_46_0, wf_46_1, wv_46_1, wf_46_2, wv_46_2, wf_46_3, wv_46_3, wp_46_3, wo_6, wf_6_0, wv_6_0, wf_6_1, wv_6_1, wf_6_2, wv_6_2, wp_6_2, wf_6_3, wv_6_3, wf_6_4, wv_6_4, wf_6_5, wv_6_5, wf_6_6, wv_6_6, wp_6_6, wo_49, wf_49_0, wv_49_0, wf_49_1, wv_49_1, wf_49_2, wv_49_2, wp_49_2, wf_49_3, wv_49_3, wf_49_4, wv_49_4, wp_49_4, am_rt_some, am_rt_void, am_rt_none, am_rt_ite, ↓reduceIte, if_true, if_false, and_self, true_and, and_true, true_or, or_true, Bool.false_eq_true, reduceCtorEq]
  refine am_T.rtU (c_pass49 (t_lac f1 (by decide) hR.lac)) ?_
  intro I2 A2 J2 ⟨f2, h1, h2⟩
  have F2 : Fr [(49, 4), (49, 2)] [52, 11, 12, 51] [] I A J I2 A2 J2 := (f1.mo (by decide) (by decide) (by decide)).tr (f2.mo (by decide) (by decide) (by decide))
  have m2 : I2 49 2 = mn99 (I 49 2) := by rw [h1, f1.i 49 2 (by decide)]
  simp only [sX10_minute_56, sX10_minute_57, sX10_minute_60, sX10_minute_63, sX10_minute_64, sX10_minute_65, sX10_minute_65_f, sX10_minute_66, sX10_minute_67, sX10_minute_68, sX10_minute_69, sX10_minute_70, sX10_minute_73, sX10_minute_76, sX10_minute_79, wo_0, wf_0_0, wv_0_0, wf_0_1, wv_0_1, wf_0_2, wv_0_2, wf_0_3, wv_0_3, wf_0_4, wv_0_4, wf_0_5, wv_0_5, wf_0_6, wv_0_6, wf_0_7, wv_0_7, wf_0_8, wv_0_8, wf_0_9, wv_0_9, wp_0_9, wf_0_10, wv_0_10, wp_0_10, wf_0_11, wv_0_11, wp_0_11, wo_46, wf_46_0, wv_46_0, wf_46_1, wv_46_1, wf_46_2, wv_46_2, wf_46_3, wv_46_3, wp_46_3, wi_48, wg_48, ws_48, ww_48, wl_48, wn_48, wo_49, wf_49_0, wv_49_0, wf_49_1, wv_49_1, wf_49_2, wv_49_2, wp_49_2, wf_49_3, wv_49_3, wf_49_4, wv_49_4, wp_49_4, am_rt_some, am_rt_void, am_rt_none, am_rt_ite, ↓reduceIte, if_true, if_false, and_self, true_and, and_true, true_or, or_true, Bool.false_eq_true, reduceCtorEq, show am_in 2 5 = true from rfl, m2]
  refine am_T.ri ?_
  generalize hA3 : am_u A2 48 (upd (A2 48) (2 : Int32).toNatClampNeg (A2 48 (2 : Int32).toNatClampNeg + 1)) = A3
  have F3 : Fr [(49, 4), (49, 2)] [52, 11, 12, 51, 48] [] I A J I2 A3 J2 := by rw [← hA3]; exact (F2.mo (by decide) (by decide) (by decide)).ua (by decide)
  have a48 : A3 48 = upd (A 48) 2 (A 48 2 + 1) := by rw [← hA3, am_u_at, show A2 48 = A 48 from F2.a 48 (by decide)]; rfl
  have a51 : ∀ i, i < 5 → A3 51 i = gT G (suF (A 50) (A 13) i 8) (A 51 i) (I 49 2) (I 6 2) (nI i) (smf (A 50) 8) := fun i hi => by
    rw [← hA3, am_u_ne (show (51 : Nat) ≠ 48 by decide), h2 i hi, g1, g2 i hi, f1.a 51 (by decide), f1.i 49 2 (by decide), f1.i 6 2 (by decide)]
  have e104 : A3 82 (104 : Int32).toNatClampNeg = A 82 104 := by rw [F3.a 82 (by decide)]; rfl
  simp only [eX11_minute, sX11_minute_0, sX11_minute_1, sX11_minute_4, sX11_minute_7, sX11_minute_9, sX11_minute_10, sX11_minute_11, sX11_minute_12, sX11_minute_15, sX11_minute_16, sX11_minute_19, sX11_minute_21, sX11_minute_22, wo_81, wf_81_0, wv_81_0, wf_81_1, wv_81_1, wp_81_1, wf_81_2, wv_81_2, wp_81_2, wf_81_3, wv_81_3, wf_81_4, wv_81_4, wf_81_5, wv_81_5, wf_81_6, wv_81_6, wp_81_6, wf_81_7, wv_81_7, wp_81_7, wf_81_8, wv_81_8, wf_81_9, wv_81_9, wp_81_9, wf_81_10, wv_81_10, wf_81_11, wv_81_11, wp_81_11, wf_81_12, wv_81_12, wp_81_12, wf_81_13, wv_81_13, wf_81_14, wv_81_14, wp_81_14, wf_81_15, wv_81_15, wp_81_15, wf_81_16, wv_81_16, wp_81_16, wf_81_17, wv_81_17, wp_81_17, wf_81_18, wv_81_18, wf_81_19, wv_81_19, wf_81_20, wv_81_20, wf_81_21, wv_81_21, wf_81_22, wv_81_22, wf_81_23, wv_81_23, wf_81_24, wv_81_24, wf_81_25, wv_81_25, wf_81_26, wv_81_26, wf_81_27, wv_81_27, wf_81_28, wv_81_28, wf_81_29, wv_81_29, wf_81_30, wv_81_30, wf_81_31, wv_81_31, wf_81_32, wv_81_32, wf_81_33, wv_81_33, wp_81_33, wf_81_34, wv_81_34, wf_81_35, wv_81_35, wp_81_35, wf_81_36, wv_81_36, wf_81_37, wv_81_37, wp_81_37, wf_81_38, wv_81_38, wf_81_39, wv_81_39, wf_81_40, wv_81_40, wf_81_41, wv_81_41, wf_81_42, wv_81_42, wp_81_42, wf_81_43, wv_81_43, wp_81_43, wf_81_44, wv_81_44, wp_81_44, wf_81_45, wv_81_45, wf_81_46, wv_81_46, wf_81_47, wv_81_47, wf_81_48, wv_81_48, wp_81_48, wf_81_49, wv_81_49, wf_81_50, wv_81_50, wp_81_50, wi_82, wg_82, ws_82, ww_82, wl_82, wn_82, am_rt_some, am_rt_void, am_rt_none, am_rt_ite, ↓reduceIte, if_true, if_false, and_self, true_and, and_true, true_or, or_true, Bool.false_eq_true, reduceCtorEq, (F3.i 81 37 (by decide)).trans ip2, e10, if_false, show am_in 104 105 = true from rfl, e104]
  refine am_T.rtU (r_cook105 (t_lar F3 (by decide) hR.lar) (fun j hj => by rw [F3.a 90 (by decide)]; exact hR.con.1 j hj)) ?_
  intro I4 A4 J4 ⟨f4, k1, k2, k3⟩
  have F4 : Fr [(49, 4), (49, 2), (81, 14), (81, 15), (81, 16), (81, 17)] [52, 11, 12, 51, 48, 88, 89, 91, 105] [] I A J I4 A4 J4 := (F3.mo (by decide) (by decide) (by decide)).tr (f4.mo (by decide) (by decide) (by decide))
  have e105 : A3 105 = A 105 := F3.a 105 (by decide)
  have e82 : A3 82 = A 82 := F3.a 82 (by decide)
  rw [e105, e82] at k3
  rw [e105] at k1 k2
  have k8 : A4 105 (8 : Int32).toNatClampNeg = mn99 (I 49 2) := by rw [q2]; exact k2
  simp only [sX11_minute_25, sX11_minute_26, sX11_minute_29, sX11_minute_30, sX11_minute_31, sX11_minute_32, sX11_minute_33, sX11_minute_34, sX11_minute_35, sX11_minute_36, sX11_minute_39, sX11_minute_41, sX11_minute_42, wo_81, wf_81_0, wv_81_0, wf_81_1, wv_81_1, wp_81_1, wf_81_2, wv_81_2, wp_81_2, wf_81_3, wv_81_3, wf_81_4, wv_81_4, wf_81_5, wv_81_5, wf_81_6, wv_81_6, wp_81_6, wf_81_7, wv_81_7, wp_81_7, wf_81_8, wv_81_8, wf_81_9, wv_81_9, wp_81_9, wf_81_10, wv_81_10, wf_81_11, wv_81_11, wp_81_11, wf_81_12, wv_81_12, wp_81_12, wf_81_13, wv_81_13, wf_81_14, wv_81_14, wp_81_14, wf_81_15, wv_81_15, wp_81_15, wf_81_16, wv_81_16, wp_81_16, wf_81_17, wv_81_17, wp_81_17, wf_81_18, wv_81_18, wf_81_19, wv_81_19, wf_81_20, wv_81_20, wf_81_21, wv_81_21, wf_81_22, wv_81_22, wf_81_23, wv_81_23, wf_81_24, wv_81_24, wf_81_25, wv_81_25, wf_81_26, wv_81_26, wf_81_27, wv_81_27, wf_81_28, wv_81_28, wf_81_29, wv_81_29, wf_81_30, wv_81_30, wf_81_31, wv_81_31, wf_81_32, wv_81_32, wf_81_33, wv_81_33, wp_81_33, wf_81_34, wv_81_34, wf_81_35, wv_81_35, wp_81_35, wf_81_36, wv_81_36, wf_81_37, wv_81_37, wp_81_37, wf_81_38, wv_81_38, wf_81_39, wv_81_39, wf_81_40, wv_81_40, wf_81_41, wv_81_41, wf_81_42, wv_81_42, wp_81_42, wf_81_43, wv_81_43, wp_81_43, wf_81_44, wv_81_44, wp_81_44, wf_81_45, wv_81_45, wf_81_46, wv_81_46, wf_81_47, wv_81_47, wf_81_48, wv_81_48, wp_81_48, wf_81_49, wv_81_49, wf_81_50, wv_81_50, wp_81_50, wi_105, wg_105, ws_105, ww_105, wl_105, wn_105, wi_106, wg_106, ws_106, ww_106, wl_106, wn_106, am_rt_some, am_rt_void, am_rt_none, am_rt_ite, ↓reduceIte, if_true, if_false, and_self, true_and, and_true, true_or, or_true, Bool.false_eq_true, reduceCtorEq, show am_in 2 5 = true from rfl, show am_in 8 14 = true from rfl, am_u_ne (show (105 : Nat) ≠ 106 by decide), k8]
  refine am_T.ri ⟨G, ?_⟩
  have F : Fr [(49, 4), (49, 2), (81, 14), (81, 15), (81, 16), (81, 17)] [52, 11, 12, 51, 48, 88, 89, 91, 105, 106] [] I A J I4 (am_u A4 106 (upd (A4 106) (2 : Int32).toNatClampNeg (A4 106 (2 : Int32).toNatClampNeg + 1))) J4 := (F4.mo (by decide) (by decide) (by decide)).ua (by decide)
  have pl : rLed (A4 48) (upd (A4 106) 2 (A4 106 2 + 1)) := by
    rw [show A4 48 = A3 48 from f4.a 48 (by decide), a48, show A4 106 = A 106 from F4.a 106 (by decide)]
    exact led_inc hR.led (by decide)
  have pp : rPot (A4 50) (I4 49 2) (A4 51) (A4 105) := by
    refine ⟨fun j hj => ?_, ?_, ?_, fun i hi => ?_⟩
    · rw [show A4 50 = A 50 from F4.a 50 (by decide), k1 j hj]; exact q1 j hj
    · rw [f4.i 49 2 (by decide), m2, k2, q2]
    · rw [f4.i 49 2 (by decide), m2]; exact mn99_in q3
    · rw [show A4 51 = A3 51 from f4.a 51 (by decide), a51 i hi]
      refine ⟨?_, cl99_in _⟩
      rw [k3 i hi, suF_cg (th' := A 105) (st' := A 82) hi (Nat.le_refl 8) (fun j hj => (q1 j hj).1) (fun j hj => hR.str j hj), smf_cg (g := A 105) (fun j hj => (q1 j hj).1), (q4 i hi).1, q2, show I 6 2 = A 82 104 from hR.fir]
  exact ⟨t_hou F (by decide) hR.hou, t_nos F (by decide) hR.nos, t_str F (by decide) hR.str, t_has F (by decide) hR.has, t_fir F (by decide) hR.fir, t_chg F (by decide) hR.chg, t_tap F (by decide) hR.tap, t_lac F (by decide) hR.lac, t_lar F (by decide) hR.lar, pp, t_isp F (by decide) hR.isp, pl, t_isk F (by decide) hR.isk, t_img F (by decide) hR.img, t_kpo F (by decide) hR.kpo, t_kip F (by decide) hR.kip, t_kle F (by decide) hR.kle, t_lad F (by decide) hR.lad, t_shs F (by decide) hR.shs, t_con F (by decide) hR.con, t_loa F (by decide) hR.loa⟩
end MI

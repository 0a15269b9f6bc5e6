/-! undo, redo, mend: both -/
section UN
variable {X : Nat × (Nat → Int32)} {d : Nat} {I A : TI} {J : TJ} {w : am_W}
theorem Rel.tells {G : VF} {I2 A2 : TI} {J2 : TJ} {li : List (Nat × Nat)} {la : List Nat} (h : Rel G I A J) (f : Fr li la [] I A J I2 A2 J2) (c1 : ∀ x ∈ li, x ∈ [(6, 2), (60, 4), (60, 5), (81, 6), (81, 7)]) (c2 : ∀ x ∈ la, x ∈ [13, 37, 38, 47, 61, 62, 63, 64, 82, 83, 84, 85]) (g : NumR I2 A2 (A2 82) (I2 81 2)) (g5 : rChg (I2 60 4) (I2 60 5) (I2 81 6) (I2 81 7) (A2 61) (A2 62) (A2 63) (A2 64) (A2 83) (A2 84) (A2 85) (I2 0 9) (I2 36 2)) : Rel G I2 A2 J2 := by
  have f' : Fr [(6, 2), (60, 4), (60, 5), (81, 6), (81, 7)] [13, 37, 38, 47, 61, 62, 63, 64, 82, 83, 84, 85] [] I A J I2 A2 J2 := f.mo c1 c2 (fun x hx => hx)
  obtain ⟨g1, g2, g3, g4⟩ := g
  exact ⟨t_hou f' (by decide) h.hou, g4, g1, g2, g3, g5, t_tap f' (by decide) h.tap, t_lac f' (by decide) h.lac, t_lar f' (by decide) h.lar, t_pot f' (by decide) h.pot, t_isp f' (by decide) h.isp, t_led f' (by decide) h.led, t_isk f' (by decide) h.isk, t_img f' (by decide) h.img, t_kpo f' (by decide) h.kpo, t_kip f' (by decide) h.kip, t_kle f' (by decide) h.kle, t_lad f' (by decide) h.lad, t_shs f' (by decide) h.shs, t_con f' (by decide) h.con, t_loa f' (by decide) h.loa⟩
theorem bt_undo : Bt mX10_undo mX11_undo [] := by
  intro X d I A J ⟨G, hR⟩
  obtain ⟨h, hh, e1, e2⟩ := hR.hou
  obtain ⟨z, hz, e3, e4⟩ := hR.nos.1
  obtain ⟨dd, s, hds, hs, c1, c2, c3, c4, hj⟩ := hR.chg
  have l0 : (0 < nI dd) = (0 < dd) := propext (nI_ltI (a := 0) (b := dd) (by decide) (by omega))
  have n0 : (nI dd = 0) = (dd = 0) := i_eq (b := 0) (by omega) (by decide)
  by_cases hd : dd = 0
  · refine ⟨-5, ?_⟩
    simp only [eX10_undo, sX10_undo_0, sX10_undo_1, sX10_undo_4, sX10_undo_7, sX10_undo_10, sX10_undo_12, wo_0, wf_0_0, wv_0_0, wf_0_1, wv_0_1, wf_0_2, wv_0_2, wf_0_3, wv_0_3, wf_0_4, wv_0_4, wf_0_5, wv_0_5, wf_0_6, wv_0_6, wf_0_7, wv_0_7, wf_0_8, wv_0_8, wf_0_9, wv_0_9, wp_0_9, wf_0_10, wv_0_10, wp_0_10, wf_0_11, wv_0_11, wp_0_11, wo_60, wf_60_0, wv_60_0, wf_60_1, wv_60_1, wf_60_2, wv_60_2, wf_60_3, wv_60_3, wf_60_4, wv_60_4, wp_60_4, wf_60_5, wv_60_5, wp_60_5, am_rt_some, am_rt_void, am_rt_none, am_rt_ite, ↓reduceIte, if_true, if_false, and_self, true_and, and_true, true_or, or_true, Bool.false_eq_true, reduceCtorEq, c1, l0, hd, Nat.lt_irrefl]
    refine am_T.ri ?_
    simp only [eX11_undo, sX11_undo_0, sX11_undo_1, sX11_undo_4, sX11_undo_7, sX11_undo_9, wo_81, wf_81_0, wv_81_0, wf_81_1, wv_81_1, wp_81_1, wf_81_2, wv_81_2, wp_81_2, wf_81_3, wv_81_3, wf_81_4, wv_81_4, wf_81_5, wv_81_5, wf_81_6, wv_81_6, wp_81_6, wf_81_7, wv_81_7, wp_81_7, wf_81_8, wv_81_8, wf_81_9, wv_81_9, wp_81_9, wf_81_10, wv_81_10, wf_81_11, wv_81_11, wp_81_11, wf_81_12, wv_81_12, wp_81_12, wf_81_13, wv_81_13, wf_81_14, wv_81_14, wp_81_14, wf_81_15, wv_81_15, wp_81_15, wf_81_16, wv_81_16, wp_81_16, wf_81_17, wv_81_17, wp_81_17, wf_81_18, wv_81_18, wf_81_19, wv_81_19, wf_81_20, wv_81_20, wf_81_21, wv_81_21, wf_81_22, wv_81_22, wf_81_23, wv_81_23, wf_81_24, wv_81_24, wf_81_25, wv_81_25, wf_81_26, wv_81_26, wf_81_27, wv_81_27, wf_81_28, wv_81_28, wf_81_29, wv_81_29, wf_81_30, wv_81_30, wf_81_31, wv_81_31, wf_81_32, wv_81_32, wf_81_33, wv_81_33, wp_81_33, wf_81_34, wv_81_34, wf_81_35, wv_81_35, wp_81_35, wf_81_36, wv_81_36, wf_81_37, wv_81_37, wp_81_37, wf_81_38, wv_81_38, wf_81_39, wv_81_39, wf_81_40, wv_81_40, wf_81_41, wv_81_41, wf_81_42, wv_81_42, wp_81_42, wf_81_43, wv_81_43, wp_81_43, wf_81_44, wv_81_44, wp_81_44, wf_81_45, wv_81_45, wf_81_46, wv_81_46, wf_81_47, wv_81_47, wf_81_48, wv_81_48, wp_81_48, wf_81_49, wv_81_49, wf_81_50, wv_81_50, wp_81_50, am_rt_some, am_rt_void, am_rt_none, am_rt_ite, ↓reduceIte, if_true, if_false, and_self, true_and, and_true, true_or, or_true, Bool.false_eq_true, reduceCtorEq, c3, n0, hd]
    exact am_T.ri ⟨G, hR⟩
  obtain ⟨k, rfl⟩ : ∃ k, dd = k + 1 := ⟨dd - 1, by omega⟩
  obtain ⟨b1, b2, p, b3, b4, b5, b6⟩ := hj k (by omega)
  have b3' := b3
  rw [e1, e3, am_ncl (by omega), am_ncl (by omega)] at b3'
  have hp := lcN_lt hh hz b3'
  have ik : am_in (nI k) 40 = true := am_nin (by omega) (by decide)
  have kc : (nI k).toNatClampNeg = k := am_ncl (by omega)
  have ip : am_in (nI p) 105 = true := am_nin hp (by decide)
  have pc : (nI p).toNatClampNeg = p := am_ncl (by omega)
  have hN : NumR (am_u2 I 60 4 (nI k)) A (A 82) (I 81 2) := hR.num
  refine ⟨nI k, ?_⟩
  simp only [eX10_undo, sX10_undo_0, sX10_undo_1, sX10_undo_4, sX10_undo_7, sX10_undo_10, sX10_undo_12, sX10_undo_13, sX10_undo_14, sX10_undo_17, sX10_undo_17_r, sX10_undo_18, sX10_undo_21, sX10_undo_22, sX10_undo_23, sX10_undo_26, sX10_undo_27, sX10_undo_30, sX10_undo_33, sX10_undo_34, sX10_undo_35, sX10_undo_36, sX10_undo_39, sX10_undo_42, sX10_undo_43, sX10_undo_43_f, sX10_undo_44, sX10_undo_45, sX10_undo_48, sX10_undo_51, sX10_undo_52, sX10_undo_52_f, sX10_undo_53, sX10_undo_54, sX10_undo_57, sX10_undo_60, sX10_undo_61, sX10_undo_61_f, sX10_undo_62, wo_0, wf_0_0, wv_0_0, wf_0_1, wv_0_1, wf_0_2, wv_0_2, wf_0_3, wv_0_3, wf_0_4, wv_0_4, wf_0_5, wv_0_5, wf_0_6, wv_0_6, wf_0_7, wv_0_7, wf_0_8, wv_0_8, wf_0_9, wv_0_9, wp_0_9, wf_0_10, wv_0_10, wp_0_10, wf_0_11, wv_0_11, wp_0_11, wo_60, wf_60_0, wv_60_0, wf_60_1, wv_60_1, wf_60_2, wv_60_2, wf_60_3, wv_60_3, wf_60_4, wv_60_4, wp_60_4, wf_60_5, wv_60_5, wp_60_5, wi_61, wg_61, ws_61, ww_61, wl_61, wn_61, wi_62, wg_62, ws_62, ww_62, wl_62, wn_62, wi_63, wg_63, ws_63, ww_63, wl_63, wn_63, am_rt_some, am_rt_void, am_rt_none, am_rt_ite, ↓reduceIte, if_true, if_false, and_self, true_and, and_true, true_or, or_true, Bool.false_eq_true, reduceCtorEq, c1, l0, show 0 < k + 1 by omega, nI_pred, am_u2_at, ik, kc]
  refine am_T.rtU (c_tell hN hh hz b3' b5) ?_
  intro I1 A1 J1 ⟨f, g⟩
  have d60 : I1 60 4 = nI k := f.i 60 4 (by decide)
  simp only [sX10_undo_65, sX10_undo_66, sX10_undo_69, sX10_undo_72, wo_0, wf_0_0, wv_0_0, wf_0_1, wv_0_1, wf_0_2, wv_0_2, wf_0_3, wv_0_3, wf_0_4, wv_0_4, wf_0_5, wv_0_5, wf_0_6, wv_0_6, wf_0_7, wv_0_7, wf_0_8, wv_0_8, wf_0_9, wv_0_9, wp_0_9, wf_0_10, wv_0_10, wp_0_10, wf_0_11, wv_0_11, wp_0_11, wo_60, wf_60_0, wv_60_0, wf_60_1, wv_60_1, wf_60_2, wv_60_2, wf_60_3, wv_60_3, wf_60_4, wv_60_4, wp_60_4, wf_60_5, wv_60_5, wp_60_5, am_rt_some, am_rt_void, am_rt_none, am_rt_ite, ↓reduceIte, if_true, if_false, and_self, true_and, and_true, true_or, or_true, Bool.false_eq_true, reduceCtorEq, d60]
  refine am_T.ri ?_
  have k6 : I1 81 6 = nI (k + 1) := (f.i 81 6 (by decide)).trans c3
  have n0' : (nI (k + 1) = 0) = False := eq_false (nI_ne0 (by omega) (by omega))
  have a83 : A1 83 = A 83 := f.a 83 (by decide)
  have a84 : A1 84 = A 84 := f.a 84 (by decide)
  have a82 : A1 82 = A 82 := f.a 82 (by decide)
  simp only [eX11_undo, sX11_undo_0, sX11_undo_1, sX11_undo_4, sX11_undo_7, sX11_undo_9, sX11_undo_10, sX11_undo_11, sX11_undo_11_r, sX11_undo_12, sX11_undo_15, sX11_undo_16, sX11_undo_17, sX11_undo_20, sX11_undo_21, sX11_undo_24, sX11_undo_25, sX11_undo_28, sX11_undo_29, sX11_undo_32, sX11_undo_33, sX11_undo_34, sX11_undo_37, sX11_undo_38, sX11_undo_41, sX11_undo_42, sX11_undo_43, sX11_undo_44, sX11_undo_47, wo_81, wf_81_0, wv_81_0, wf_81_1, wv_81_1, wp_81_1, wf_81_2, wv_81_2, wp_81_2, wf_81_3, wv_81_3, wf_81_4, wv_81_4, wf_81_5, wv_81_5, wf_81_6, wv_81_6, wp_81_6, wf_81_7, wv_81_7, wp_81_7, wf_81_8, wv_81_8, wf_81_9, wv_81_9, wp_81_9, wf_81_10, wv_81_10, wf_81_11, wv_81_11, wp_81_11, wf_81_12, wv_81_12, wp_81_12, wf_81_13, wv_81_13, wf_81_14, wv_81_14, wp_81_14, wf_81_15, wv_81_15, wp_81_15, wf_81_16, wv_81_16, wp_81_16, wf_81_17, wv_81_17, wp_81_17, wf_81_18, wv_81_18, wf_81_19, wv_81_19, wf_81_20, wv_81_20, wf_81_21, wv_81_21, wf_81_22, wv_81_22, wf_81_23, wv_81_23, wf_81_24, wv_81_24, wf_81_25, wv_81_25, wf_81_26, wv_81_26, wf_81_27, wv_81_27, wf_81_28, wv_81_28, wf_81_29, wv_81_29, wf_81_30, wv_81_30, wf_81_31, wv_81_31, wf_81_32, wv_81_32, wf_81_33, wv_81_33, wp_81_33, wf_81_34, wv_81_34, wf_81_35, wv_81_35, wp_81_35, wf_81_36, wv_81_36, wf_81_37, wv_81_37, wp_81_37, wf_81_38, wv_81_38, wf_81_39, wv_81_39, wf_81_40, wv_81_40, wf_81_41, wv_81_41, wf_81_42, wv_81_42, wp_81_42, wf_81_43, wv_81_43, wp_81_43, wf_81_44, wv_81_44, wp_81_44, wf_81_45, wv_81_45, wf_81_46, wv_81_46, wf_81_47, wv_81_47, wf_81_48, wv_81_48, wp_81_48, wf_81_49, wv_81_49, wf_81_50, wv_81_50, wp_81_50, wi_82, wg_82, ws_82, ww_82, wl_82, wn_82, wi_83, wg_83, ws_83, ww_83, wl_83, wn_83, wi_84, wg_84, ws_84, ww_84, wl_84, wn_84, am_rt_some, am_rt_void, am_rt_none, am_rt_ite, ↓reduceIte, if_true, if_false, and_self, true_and, and_true, true_or, or_true, Bool.false_eq_true, reduceCtorEq, k6, n0', nI_pred, am_u2_at, ik, kc, a83, a84, b4, ip, pc]
  have F : Fr [(6, 2), (60, 4), (81, 6)] [13, 37, 38, 47, 82] [] I A J (am_u2 I1 81 6 (nI k)) (am_u A1 82 (upd (A1 82) p (A 84 k))) J1 := (((Fr.rf (I := I) (A := A) (J := J)).ui (c := 60) (k := 4) (x := nI k) (by decide)).tr (f.mo (by decide) (by decide) (by decide))).ui (by decide) |>.ua (by decide)
  refine am_T.ri ⟨G, hR.tells F (by decide) (by decide) ?_ ?_⟩
  · have e82 : am_u A1 82 (upd (A1 82) p (A 84 k)) 82 = upd (A 82) p (A 63 k) := by rw [am_u_at, a82, b1]
    rw [e82]
    show NumR I1 A1 _ (am_u2 I1 81 6 (nI k) 81 2)
    rw [show am_u2 I1 81 6 (nI k) 81 2 = I 81 2 from f.i 81 2 (by decide)]
    exact g
  · refine ⟨k, s, by omega, hs, d60, (F.i 60 5 (by decide)).trans c2, rfl, (F.i 81 7 (by decide)).trans c4, ?_⟩
    rw [F.a 61 (by decide), F.a 62 (by decide), F.a 63 (by decide), F.a 64 (by decide), F.a 83 (by decide), F.a 84 (by decide), F.a 85 (by decide), F.i 0 9 (by decide), F.i 36 2 (by decide)]
    exact hj
theorem bt_redo : Bt mX10_redo mX11_redo [] := by
  intro X d I A J ⟨G, hR⟩
  obtain ⟨h, hh, e1, e2⟩ := hR.hou
  obtain ⟨z, hz, e3, e4⟩ := hR.nos.1
  obtain ⟨dd, s, hds, hs, c1, c2, c3, c4, hj⟩ := hR.chg
  have l0 : (nI dd < nI s) = (dd < s) := am_nlt (by omega) (by omega)
  have n0 : (nI dd = nI s) = (dd = s) := i_eq (by omega) (by omega)
  by_cases hd : dd < s
  case neg =>
    refine ⟨-5, ?_⟩
    simp only [eX10_redo, sX10_redo_0, sX10_redo_1, sX10_redo_4, sX10_redo_7, sX10_redo_8, sX10_redo_11, sX10_redo_14, sX10_redo_17, sX10_redo_19, wo_0, wf_0_0, wv_0_0, wf_0_1, wv_0_1, wf_0_2, wv_0_2, wf_0_3, wv_0_3, wf_0_4, wv_0_4, wf_0_5, wv_0_5, wf_0_6, wv_0_6, wf_0_7, wv_0_7, wf_0_8, wv_0_8, wf_0_9, wv_0_9, wp_0_9, wf_0_10, wv_0_10, wp_0_10, wf_0_11, wv_0_11, wp_0_11, wo_60, wf_60_0, wv_60_0, wf_60_1, wv_60_1, wf_60_2, wv_60_2, wf_60_3, wv_60_3, wf_60_4, wv_60_4, wp_60_4, wf_60_5, wv_60_5, wp_60_5, am_rt_some, am_rt_void, am_rt_none, am_rt_ite, ↓reduceIte, if_true, if_false, and_self, true_and, and_true, true_or, or_true, Bool.false_eq_true, reduceCtorEq, c1, c2, l0, hd]
    refine am_T.ri ?_
    simp only [eX11_redo, sX11_redo_0, sX11_redo_1, sX11_redo_4, sX11_redo_5, sX11_redo_8, sX11_redo_11, sX11_redo_13, wo_81, wf_81_0, wv_81_0, wf_81_1, wv_81_1, wp_81_1, wf_81_2, wv_81_2, wp_81_2, wf_81_3, wv_81_3, wf_81_4, wv_81_4, wf_81_5, wv_81_5, wf_81_6, wv_81_6, wp_81_6, wf_81_7, wv_81_7, wp_81_7, wf_81_8, wv_81_8, wf_81_9, wv_81_9, wp_81_9, wf_81_10, wv_81_10, wf_81_11, wv_81_11, wp_81_11, wf_81_12, wv_81_12, wp_81_12, wf_81_13, wv_81_13, wf_81_14, wv_81_14, wp_81_14, wf_81_15, wv_81_15, wp_81_15, wf_81_16, wv_81_16, wp_81_16, wf_81_17, wv_81_17, wp_81_17, wf_81_18, wv_81_18, wf_81_19, wv_81_19, wf_81_20, wv_81_20, wf_81_21, wv_81_21, wf_81_22, wv_81_22, wf_81_23, wv_81_23, wf_81_24, wv_81_24, wf_81_25, wv_81_25, wf_81_26, wv_81_26, wf_81_27, wv_81_27, wf_81_28, wv_81_28, wf_81_29, wv_81_29, wf_81_30, wv_81_30, wf_81_31, wv_81_31, wf_81_32, wv_81_32, wf_81_33, wv_81_33, wp_81_33, wf_81_34, wv_81_34, wf_81_35, wv_81_35, wp_81_35, wf_81_36, wv_81_36, wf_81_37, wv_81_37, wp_81_37, wf_81_38, wv_81_38, wf_81_39, wv_81_39, wf_81_40, wv_81_40, wf_81_41, wv_81_41, wf_81_42, wv_81_42, wp_81_42, wf_81_43, wv_81_43, wp_81_43, wf_81_44, wv_81_44, wp_81_44, wf_81_45, wv_81_45, wf_81_46, wv_81_46, wf_81_47, wv_81_47, wf_81_48, wv_81_48, wp_81_48, wf_81_49, wv_81_49, wf_81_50, wv_81_50, wp_81_50, am_rt_some, am_rt_void, am_rt_none, am_rt_ite, ↓reduceIte, if_true, if_false, and_self, true_and, and_true, true_or, or_true, Bool.false_eq_true, reduceCtorEq, c3, c4, n0, show dd = s by omega]
    exact am_T.ri ⟨G, hR⟩
  obtain ⟨b1, b2, p, b3, b4, b5, b6⟩ := hj dd hd
  have b3' := b3
  rw [e1, e3, am_ncl (by omega), am_ncl (by omega)] at b3'
  have hp := lcN_lt hh hz b3'
  have ik : am_in (nI dd) 40 = true := am_nin (by omega) (by decide)
  have kc : (nI dd).toNatClampNeg = dd := am_ncl (by omega)
  have ip : am_in (nI p) 105 = true := am_nin hp (by decide)
  have pc : (nI p).toNatClampNeg = p := am_ncl (by omega)
  refine ⟨nI s - nI (dd + 1), ?_⟩
  simp only [eX10_redo, sX10_redo_0, sX10_redo_1, sX10_redo_4, sX10_redo_7, sX10_redo_8, sX10_redo_11, sX10_redo_14, sX10_redo_17, sX10_redo_19, sX10_redo_20, sX10_redo_21, sX10_redo_24, sX10_redo_27, sX10_redo_28, sX10_redo_29, sX10_redo_30, sX10_redo_33, sX10_redo_36, sX10_redo_37, sX10_redo_37_f, sX10_redo_38, sX10_redo_39, sX10_redo_42, sX10_redo_45, sX10_redo_46, sX10_redo_46_f, sX10_redo_47, sX10_redo_48, sX10_redo_51, sX10_redo_54, sX10_redo_55, sX10_redo_55_f, sX10_redo_56, wo_0, wf_0_0, wv_0_0, wf_0_1, wv_0_1, wf_0_2, wv_0_2, wf_0_3, wv_0_3, wf_0_4, wv_0_4, wf_0_5, wv_0_5, wf_0_6, wv_0_6, wf_0_7, wv_0_7, wf_0_8, wv_0_8, wf_0_9, wv_0_9, wp_0_9, wf_0_10, wv_0_10, wp_0_10, wf_0_11, wv_0_11, wp_0_11, wo_60, wf_60_0, wv_60_0, wf_60_1, wv_60_1, wf_60_2, wv_60_2, wf_60_3, wv_60_3, wf_60_4, wv_60_4, wp_60_4, wf_60_5, wv_60_5, wp_60_5, wi_61, wg_61, ws_61, ww_61, wl_61, wn_61, wi_62, wg_62, ws_62, ww_62, wl_62, wn_62, wi_64, wg_64, ws_64, ww_64, wl_64, wn_64, am_rt_some, am_rt_void, am_rt_none, am_rt_ite, ↓reduceIte, if_true, if_false, and_self, true_and, and_true, true_or, or_true, Bool.false_eq_true, reduceCtorEq, c1, c2, l0, hd, ik, kc]
  refine am_T.rtU (c_tell hR.num hh hz b3' b6) ?_
  intro I1 A1 J1 ⟨f, g⟩
  have d60 : I1 60 4 = nI dd := (f.i 60 4 (by decide)).trans c1
  have d65 : I1 60 5 = nI s := (f.i 60 5 (by decide)).trans c2
  have x60 : am_u2 I1 60 4 (nI (dd + 1)) 60 5 = I1 60 5 := rfl
  simp only [sX10_redo_59, sX10_redo_60, sX10_redo_63, sX10_redo_63_r, sX10_redo_64, sX10_redo_67, sX10_redo_68, sX10_redo_69, sX10_redo_72, sX10_redo_73, sX10_redo_76, sX10_redo_79, sX10_redo_80, sX10_redo_83, sX10_redo_86, sX10_redo_87, wo_0, wf_0_0, wv_0_0, wf_0_1, wv_0_1, wf_0_2, wv_0_2, wf_0_3, wv_0_3, wf_0_4, wv_0_4, wf_0_5, wv_0_5, wf_0_6, wv_0_6, wf_0_7, wv_0_7, wf_0_8, wv_0_8, wf_0_9, wv_0_9, wp_0_9, wf_0_10, wv_0_10, wp_0_10, wf_0_11, wv_0_11, wp_0_11, wo_60, wf_60_0, wv_60_0, wf_60_1, wv_60_1, wf_60_2, wv_60_2, wf_60_3, wv_60_3, wf_60_4, wv_60_4, wp_60_4, wf_60_5, wv_60_5, wp_60_5, am_rt_some, am_rt_void, am_rt_none, am_rt_ite, ↓reduceIte, if_true, if_false, and_self, true_and, and_true, true_or, or_true, Bool.false_eq_true, reduceCtorEq, d60, am_n1, am_u2_at, x60, d65]
  refine am_T.ri ?_
  have x6 : am_u2 I1 60 4 (nI (dd + 1)) 81 6 = nI dd := (f.i 81 6 (by decide)).trans c3
  have x7 : am_u2 I1 60 4 (nI (dd + 1)) 81 7 = nI s := (f.i 81 7 (by decide)).trans c4
  have x7' : am_u2 (am_u2 I1 60 4 (nI (dd + 1))) 81 6 (nI (dd + 1)) 81 7 = nI s := x7
  have a83 : A1 83 = A 83 := f.a 83 (by decide)
  have a85 : A1 85 = A 85 := f.a 85 (by decide)
  have a82 : A1 82 = A 82 := f.a 82 (by decide)
  have n0' : (dd = s) = False := eq_false (by omega)
  simp only [eX11_redo, sX11_redo_0, sX11_redo_1, sX11_redo_4, sX11_redo_5, sX11_redo_8, sX11_redo_11, sX11_redo_13, sX11_redo_14, sX11_redo_15, sX11_redo_18, sX11_redo_19, sX11_redo_22, sX11_redo_23, sX11_redo_26, sX11_redo_27, sX11_redo_28, sX11_redo_31, sX11_redo_32, sX11_redo_35, sX11_redo_36, sX11_redo_37, sX11_redo_38, sX11_redo_38_r, sX11_redo_39, sX11_redo_42, sX11_redo_43, sX11_redo_44, sX11_redo_47, sX11_redo_48, sX11_redo_51, sX11_redo_52, sX11_redo_55, sX11_redo_56, wo_81, wf_81_0, wv_81_0, wf_81_1, wv_81_1, wp_81_1, wf_81_2, wv_81_2, wp_81_2, wf_81_3, wv_81_3, wf_81_4, wv_81_4, wf_81_5, wv_81_5, wf_81_6, wv_81_6, wp_81_6, wf_81_7, wv_81_7, wp_81_7, wf_81_8, wv_81_8, wf_81_9, wv_81_9, wp_81_9, wf_81_10, wv_81_10, wf_81_11, wv_81_11, wp_81_11, wf_81_12, wv_81_12, wp_81_12, wf_81_13, wv_81_13, wf_81_14, wv_81_14, wp_81_14, wf_81_15, wv_81_15, wp_81_15, wf_81_16, wv_81_16, wp_81_16, wf_81_17, wv_81_17, wp_81_17, wf_81_18, wv_81_18, wf_81_19, wv_81_19, wf_81_20, wv_81_20, wf_81_21, wv_81_21, wf_81_22, wv_81_22, wf_81_23, wv_81_23, wf_81_24, wv_81_24, wf_81_25, wv_81_25, wf_81_26, wv_81_26, wf_81_27, wv_81_27, wf_81_28, wv_81_28, wf_81_29, wv_81_29, wf_81_30, wv_81_30, wf_81_31, wv_81_31, wf_81_32, wv_81_32, wf_81_33, wv_81_33, wp_81_33, wf_81_34, wv_81_34, wf_81_35, wv_81_35, wp_81_35, wf_81_36, wv_81_36, wf_81_37, wv_81_37, wp_81_37, wf_81_38, wv_81_38, wf_81_39, wv_81_39, wf_81_40, wv_81_40, wf_81_41, wv_81_41, wf_81_42, wv_81_42, wp_81_42, wf_81_43, wv_81_43, wp_81_43, wf_81_44, wv_81_44, wp_81_44, wf_81_45, wv_81_45, wf_81_46, wv_81_46, wf_81_47, wv_81_47, wf_81_48, wv_81_48, wp_81_48, wf_81_49, wv_81_49, wf_81_50, wv_81_50, wp_81_50, wi_82, wg_82, ws_82, ww_82, wl_82, wn_82, wi_83, wg_83, ws_83, ww_83, wl_83, wn_83, wi_85, wg_85, ws_85, ww_85, wl_85, wn_85, am_rt_some, am_rt_void, am_rt_none, am_rt_ite, ↓reduceIte, if_true, if_false, and_self, true_and, and_true, true_or, or_true, Bool.false_eq_true, reduceCtorEq, x6, x7, x7', n0, n0', am_n1, am_u2_at, ik, kc, a83, a85, b4, ip, pc]
  have F : Fr [(6, 2), (60, 4), (81, 6)] [13, 37, 38, 47, 82] [] I A J (am_u2 (am_u2 I1 60 4 (nI (dd + 1))) 81 6 (nI (dd + 1))) (am_u A1 82 (upd (A1 82) p (A 85 dd))) J1 := (((f.mo (by decide) (by decide) (by decide)).ui (by decide)).ui (by decide)).ua (by decide)
  refine am_T.ri ⟨G, hR.tells F (by decide) (by decide) ?_ ?_⟩
  · have e82 : am_u A1 82 (upd (A1 82) p (A 85 dd)) 82 = upd (A 82) p (A 64 dd) := by rw [am_u_at, a82, b2]
    rw [e82, show am_u2 (am_u2 I1 60 4 (nI (dd + 1))) 81 6 (nI (dd + 1)) 81 2 = I 81 2 from f.i 81 2 (by decide)]
    exact g
  · refine ⟨dd + 1, s, by omega, hs, rfl, (F.i 60 5 (by decide)).trans c2, rfl, (F.i 81 7 (by decide)).trans c4, ?_⟩
    rw [F.a 61 (by decide), F.a 62 (by decide), F.a 63 (by decide), F.a 64 (by decide), F.a 83 (by decide), F.a 84 (by decide), F.a 85 (by decide), F.i 0 9 (by decide), F.i 36 2 (by decide)]
    exact hj
theorem c_forget : am_CL X (d + 1) mX0_forgetFirst [.ref 60] (am_wd I A J) = some (none, am_wd (am_u2 I 60 4 39) (am_u (am_u (am_u (am_u A 61 (va_cpy (A 61) (A 61) 1 0 39)) 62 (va_cpy (A 62) (A 62) 1 0 39)) 63 (va_cpy (A 63) (A 63) 1 0 39)) 64 (va_cpy (A 64) (A 64) 1 0 39)) J) := by
  simp only [eX0_forgetFirst, sX0_forgetFirst_0, sX0_forgetFirst_1, sX0_forgetFirst_4, sX0_forgetFirst_5, sX0_forgetFirst_6, sX0_forgetFirst_9, sX0_forgetFirst_10, wo_60, wf_60_0, wv_60_0, wf_60_1, wv_60_1, wf_60_2, wv_60_2, wf_60_3, wv_60_3, wf_60_4, wv_60_4, wp_60_4, wf_60_5, wv_60_5, wp_60_5, am_rt_some, am_rt_void, am_rt_none, am_rt_ite, ↓reduceIte, if_true, if_false, and_self, true_and, and_true, true_or, or_true, Bool.false_eq_true, reduceCtorEq]
  rw [sX0_forgetFirst_12 (cl := .inl (0, 40, .inl (va_cpy (A 61) (A 61) 1 0 39))) (by rw [wr_61]; exact am_cpI 1 0 39 (by decide) (by decide) (by decide) (by decide))]
  simp only [sX0_forgetFirst_15, sX0_forgetFirst_16, sX0_forgetFirst_19, sX0_forgetFirst_20, sX0_forgetFirst_21, sX0_forgetFirst_24, sX0_forgetFirst_25, wo_60, wf_60_0, wv_60_0, wf_60_1, wv_60_1, wf_60_2, wv_60_2, wf_60_3, wv_60_3, wf_60_4, wv_60_4, wp_60_4, wf_60_5, wv_60_5, wp_60_5, wi_61, wg_61, ws_61, ww_61, wl_61, wn_61, am_rt_some, am_rt_void, am_rt_none, am_rt_ite, ↓reduceIte, if_true, if_false, and_self, true_and, and_true, true_or, or_true, Bool.false_eq_true, reduceCtorEq]
  rw [sX0_forgetFirst_27 (cl := .inl (0, 40, .inl (va_cpy (A 62) (A 62) 1 0 39))) (by rw [wr_62]; exact am_cpI 1 0 39 (by decide) (by decide) (by decide) (by decide))]
  simp only [sX0_forgetFirst_30, sX0_forgetFirst_31, sX0_forgetFirst_34, sX0_forgetFirst_35, sX0_forgetFirst_36, sX0_forgetFirst_39, sX0_forgetFirst_40, wo_60, wf_60_0, wv_60_0, wf_60_1, wv_60_1, wf_60_2, wv_60_2, wf_60_3, wv_60_3, wf_60_4, wv_60_4, wp_60_4, wf_60_5, wv_60_5, wp_60_5, wi_62, wg_62, ws_62, ww_62, wl_62, wn_62, am_rt_some, am_rt_void, am_rt_none, am_rt_ite, ↓reduceIte, if_true, if_false, and_self, true_and, and_true, true_or, or_true, Bool.false_eq_true, reduceCtorEq]
  rw [sX0_forgetFirst_42 (cl := .inl (0, 40, .inl (va_cpy (A 63) (A 63) 1 0 39))) (by rw [wr_63]; exact am_cpI 1 0 39 (by decide) (by decide) (by decide) (by decide))]
  simp only [sX0_forgetFirst_45, sX0_forgetFirst_46, sX0_forgetFirst_49, sX0_forgetFirst_50, sX0_forgetFirst_51, sX0_forgetFirst_54, sX0_forgetFirst_55, wo_60, wf_60_0, wv_60_0, wf_60_1, wv_60_1, wf_60_2, wv_60_2, wf_60_3, wv_60_3, wf_60_4, wv_60_4, wp_60_4, wf_60_5, wv_60_5, wp_60_5, wi_63, wg_63, ws_63, ww_63, wl_63, wn_63, am_rt_some, am_rt_void, am_rt_none, am_rt_ite, ↓reduceIte, if_true, if_false, and_self, true_and, and_true, true_or, or_true, Bool.false_eq_true, reduceCtorEq]
  rw [sX0_forgetFirst_57 (cl := .inl (0, 40, .inl (va_cpy (A 64) (A 64) 1 0 39))) (by rw [wr_64]; exact am_cpI 1 0 39 (by decide) (by decide) (by decide) (by decide))]
  simp only [sX0_forgetFirst_60, sX0_forgetFirst_61, sX0_forgetFirst_63, sX0_forgetFirst_66, wo_60, wf_60_0, wv_60_0, wf_60_1, wv_60_1, wf_60_2, wv_60_2, wf_60_3, wv_60_3, wf_60_4, wv_60_4, wp_60_4, wf_60_5, wv_60_5, wp_60_5, wi_64, wg_64, ws_64, ww_64, wl_64, wn_64, am_rt_some, am_rt_void, am_rt_none, am_rt_ite, ↓reduceIte, if_true, if_false, and_self, true_and, and_true, true_or, or_true, Bool.false_eq_true, reduceCtorEq]
/-- by how much the changes are shifted -/
def shN (dd : Nat) : Nat := if dd < 40 then 0 else 1
theorem c_chgCome {n q a b : Int32} {dd : Nat} (h : I 60 4 = nI dd) (hd : dd ≤ 40) : am_T (am_CL X (d + 2) mX0_come [.ref 60, .int n, .int q, .int a, .int b] (am_wd I A J)) (oU fun I' A' J' => Fr [(60, 4), (60, 5)] [61, 62, 63, 64] [] I A J I' A' J' ∧ I' 60 4 = nI (dd - shN dd + 1) ∧ I' 60 5 = nI (dd - shN dd + 1) ∧ (∀ j, j < dd - shN dd → A' 61 j = A 61 (j + shN dd) ∧ A' 62 j = A 62 (j + shN dd) ∧ A' 63 j = A 63 (j + shN dd) ∧ A' 64 j = A 64 (j + shN dd)) ∧ A' 61 (dd - shN dd) = n ∧ A' 62 (dd - shN dd) = q ∧ A' 63 (dd - shN dd) = a ∧ A' 64 (dd - shN dd) = b) := by
  have e40 : (nI dd < 40) = (dd < 40) := am_nlit (x := 40) 40 rfl (by omega) (by decide)
  by_cases c : dd < 40
  · have s0 : shN dd = 0 := if_pos c
    have ik : am_in (nI dd) 40 = true := am_nin c (by decide)
    have kc : (nI dd).toNatClampNeg = dd := am_ncl (by omega)
    rw [s0]
    simp only [eX0_come, sX0_come_0, sX0_come_1, sX0_come_4, sX0_come_6, sX0_come_9, sX0_come_10, sX0_come_13, sX0_come_14, sX0_come_17, sX0_come_18, sX0_come_21, sX0_come_22, sX0_come_23, sX0_come_24, sX0_come_27, sX0_come_28, sX0_come_31, sX0_come_32, sX0_come_33, sX0_come_34, sX0_come_37, sX0_come_38, sX0_come_41, sX0_come_42, sX0_come_43, sX0_come_44, sX0_come_47, sX0_come_48, sX0_come_51, sX0_come_53, sX0_come_54, sX0_come_55, sX0_come_55_r, sX0_come_56, sX0_come_59, sX0_come_60, sX0_come_61, sX0_come_64, sX0_come_65, sX0_come_66, sX0_come_69, sX0_come_72, wo_60, wf_60_0, wv_60_0, wf_60_1, wv_60_1, wf_60_2, wv_60_2, wf_60_3, wv_60_3, wf_60_4, wv_60_4, wp_60_4, wf_60_5, wv_60_5, wp_60_5, wi_61, wg_61, ws_61, ww_61, wl_61, wn_61, wi_62, wg_62, ws_62, ww_62, wl_62, wn_62, wi_63, wg_63, ws_63, ww_63, wl_63, wn_63, wi_64, wg_64, ws_64, ww_64, wl_64, wn_64, am_rt_some, am_rt_void, am_rt_none, am_rt_ite, ↓reduceIte, if_true, if_false, and_self, true_and, and_true, true_or, or_true, Bool.false_eq_true, reduceCtorEq, h, e40, c, ik, kc, am_n1, am_u2_at, am_u_ne (show (62 : Nat) ≠ 61 by decide), am_u_ne (show (63 : Nat) ≠ 62 by decide), am_u_ne (show (63 : Nat) ≠ 61 by decide), am_u_ne (show (64 : Nat) ≠ 63 by decide), am_u_ne (show (64 : Nat) ≠ 62 by decide), am_u_ne (show (64 : Nat) ≠ 61 by decide)]
    refine am_T.ru ⟨?_, rfl, rfl, fun j hj => ?_, ?_, ?_, ?_, ?_⟩
    · exact (((((Fr.rf.ua (by decide)).ua (by decide)).ua (by decide)).ua (by decide)).ui (by decide)).ui (by decide)
    · simp [am_u, upd, show ¬ j = dd by omega]
    · simp [am_u, upd]
    · simp [am_u, upd]
    · simp [am_u, upd]
    · simp [am_u, upd]
  · have hd40 : dd = 40 := by omega
    subst hd40
    rw [show shN 40 = 1 from rfl]
    have ik : am_in 39 40 = true := rfl
    have kc : (39 : Int32).toNatClampNeg = 39 := rfl
    simp only [eX0_come, sX0_come_0, sX0_come_1, sX0_come_4, sX0_come_6, sX0_come_9, sX0_come_10, sX0_come_13, sX0_come_14, sX0_come_17, sX0_come_18, sX0_come_21, sX0_come_22, sX0_come_23, sX0_come_24, sX0_come_27, sX0_come_28, sX0_come_31, sX0_come_32, sX0_come_33, sX0_come_34, sX0_come_37, sX0_come_38, sX0_come_41, sX0_come_42, sX0_come_43, sX0_come_44, sX0_come_47, sX0_come_48, sX0_come_51, sX0_come_53, sX0_come_54, sX0_come_55, sX0_come_55_r, sX0_come_56, sX0_come_59, sX0_come_60, sX0_come_61, sX0_come_64, sX0_come_65, sX0_come_66, sX0_come_69, sX0_come_72, wo_60, wf_60_0, wv_60_0, wf_60_1, wv_60_1, wf_60_2, wv_60_2, wf_60_3, wv_60_3, wf_60_4, wv_60_4, wp_60_4, wf_60_5, wv_60_5, wp_60_5, wi_61, wg_61, ws_61, ww_61, wl_61, wn_61, wi_62, wg_62, ws_62, ww_62, wl_62, wn_62, wi_63, wg_63, ws_63, ww_63, wl_63, wn_63, wi_64, wg_64, ws_64, ww_64, wl_64, wn_64, am_rt_some, am_rt_void, am_rt_none, am_rt_ite, ↓reduceIte, if_true, if_false, and_self, true_and, and_true, true_or, or_true, Bool.false_eq_true, reduceCtorEq, h, e40, Nat.lt_irrefl, c_forget, ik, kc, am_n1, am_u2_at, am_u22, am_u_at, am_uu]
    refine am_T.ru ⟨?_, rfl, rfl, fun j hj => ?_, ?_, ?_, ?_, ?_⟩
    · exact (by repeat' (first | exact Fr.rf | assumption | refine Fr.ua ?_ ?_ | refine Fr.ui ?_ ?_ | refine Fr.uj ?_ ?_ | decide))
    · have : ¬ j = 39 := by omega
      simp [am_u, upd, this, va_cpy, show j < 39 by omega, Nat.add_comm]
    · simp [am_u, upd]
    · simp [am_u, upd]
    · simp [am_u, upd]
    · simp [am_u, upd]
end UN

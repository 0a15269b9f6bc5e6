section C43
variable {X : Nat × (Nat → Int32)} {d : Nat} {I A : Nat → Nat → Int32} {J : Nat → Nat → Int64} {w : am_W}
theorem c_nosesCome {k : Int32} {z : Nat} (hz : z ≤ 8) (h : I 36 2 = nI z) : am_CL X (d + 1) mX5_come [.ref 36, .int k] (am_wd I A J) = if z < 8 then some (some (.int (nI z)), am_wd (am_u2 I 36 2 (nI (z + 1))) (am_u (am_u A 37 (upd (A 37) z k)) 38 (upd (A 38) z 31)) J) else some (some (.int (-3)), am_wd I A J) := by
  have e8 : (nI z < 8) = (z < 8) := am_nlit 8 rfl (by omega) (by omega)
  simp only [eX5_come, sX5_come_0, sX5_come_1, sX5_come_4, sX5_come_6, sX5_come_9, sX5_come_11, sX5_come_12, sX5_come_13, sX5_come_16, sX5_come_17, sX5_come_20, sX5_come_21, sX5_come_22, sX5_come_23, sX5_come_26, sX5_come_27, sX5_come_30, sX5_come_32, sX5_come_33, sX5_come_34, sX5_come_34_r, sX5_come_35, sX5_come_38, sX5_come_39, sX5_come_40, sX5_come_41, sX5_come_44, wo_36, wf_36_0, wv_36_0, wf_36_1, wv_36_1, wf_36_2, wv_36_2, wp_36_2, wf_36_3, wv_36_3, wf_36_4, wv_36_4, wf_36_5, wv_36_5, wp_36_5, wi_37, wg_37, ws_37, ww_37, wl_37, wn_37, wi_38, wg_38, ws_38, ww_38, wl_38, wn_38, am_rt_some, am_rt_void, am_rt_none, am_rt_ite, ↓reduceIte, if_true, if_false, and_self, true_and, and_true, true_or, or_true, Bool.false_eq_true, reduceCtorEq, h, e8]
  by_cases hz8 : z < 8
  · simp only [hz8, am_nin hz8 (show 8 < 2147483648 by omega), if_true, am_ncl (show z < 2147483648 by omega), am_n1, am_u_ne (show (38 : Nat) ≠ 37 by decide)]
  · simp only [hz8, if_false]
theorem c_house : am_CL X (d + 1) mX10_house [.ref 0] (am_wd I A J) = if I 0 9 < 6 then some (some (.int (I 0 9)), am_wd (am_u2 I 0 9 (I 0 9 + 1)) A J) else some (some (.int (-3)), am_wd I A J) := by
  simp only [eX10_house, sX10_house_0, sX10_house_1, sX10_house_4, sX10_house_6, sX10_house_9, sX10_house_11, sX10_house_12, sX10_house_13, sX10_house_13_r, sX10_house_14, sX10_house_17, sX10_house_18, sX10_house_19, sX10_house_20, sX10_house_23, wo_0, wf_0_0, wv_0_0, wf_0_1, wv_0_1, wf_0_2, wv_0_2, wf_0_3, wv_0_3, wf_0_4, wv_0_4, wf_0_5, wv_0_5, wf_0_6, wv_0_6, wf_0_7, wv_0_7, wf_0_8, wv_0_8, wf_0_9, wv_0_9, wp_0_9, wf_0_10, wv_0_10, wp_0_10, wf_0_11, wv_0_11, wp_0_11, am_rt_some, am_rt_void, am_rt_none, am_rt_ite, ↓reduceIte, if_true, if_false, and_self, true_and, and_true, true_or, or_true, Bool.false_eq_true, reduceCtorEq]
theorem r_house : am_CL X (d + 1) mX11_house [.ref 81] (am_wd I A J) = if I 81 1 = 6 then some (some (.int (-3)), am_wd I A J) else some (some (.int (I 81 1 + 1 - 1)), am_wd (am_u2 I 81 1 (I 81 1 + 1)) A J) := by
  simp only [eX11_house, sX11_house_0, sX11_house_1, sX11_house_4, sX11_house_6, sX11_house_9, sX11_house_11, sX11_house_12, sX11_house_13, sX11_house_13_r, sX11_house_14, sX11_house_17, sX11_house_18, sX11_house_19, sX11_house_22, sX11_house_23, sX11_house_26, sX11_house_27, sX11_house_28, wo_81, wf_81_0, wv_81_0, wf_81_1, wv_81_1, wp_81_1, wf_81_2, wv_81_2, wp_81_2, wf_81_3, wv_81_3, wf_81_4, wv_81_4, wf_81_5, wv_81_5, wf_81_6, wv_81_6, wp_81_6, wf_81_7, wv_81_7, wp_81_7, wf_81_8, wv_81_8, wf_81_9, wv_81_9, wp_81_9, wf_81_10, wv_81_10, wf_81_11, wv_81_11, wp_81_11, wf_81_12, wv_81_12, wp_81_12, wf_81_13, wv_81_13, wf_81_14, wv_81_14, wp_81_14, wf_81_15, wv_81_15, wp_81_15, wf_81_16, wv_81_16, wp_81_16, wf_81_17, wv_81_17, wp_81_17, wf_81_18, wv_81_18, wf_81_19, wv_81_19, wf_81_20, wv_81_20, wf_81_21, wv_81_21, wf_81_22, wv_81_22, wf_81_23, wv_81_23, wf_81_24, wv_81_24, wf_81_25, wv_81_25, wf_81_26, wv_81_26, wf_81_27, wv_81_27, wf_81_28, wv_81_28, wf_81_29, wv_81_29, wf_81_30, wv_81_30, wf_81_31, wv_81_31, wf_81_32, wv_81_32, wf_81_33, wv_81_33, wp_81_33, wf_81_34, wv_81_34, wf_81_35, wv_81_35, wp_81_35, wf_81_36, wv_81_36, wf_81_37, wv_81_37, wp_81_37, wf_81_38, wv_81_38, wf_81_39, wv_81_39, wf_81_40, wv_81_40, wf_81_41, wv_81_41, wf_81_42, wv_81_42, wp_81_42, wf_81_43, wv_81_43, wp_81_43, wf_81_44, wv_81_44, wp_81_44, wf_81_45, wv_81_45, wf_81_46, wv_81_46, wf_81_47, wv_81_47, wf_81_48, wv_81_48, wp_81_48, wf_81_49, wv_81_49, wf_81_50, wv_81_50, wp_81_50, am_rt_some, am_rt_void, am_rt_none, am_rt_ite, ↓reduceIte, if_true, if_false, and_self, true_and, and_true, true_or, or_true, Bool.false_eq_true, reduceCtorEq]
  simp only [am_u2, if_true]
theorem r_isIn {v l h : Int32} : am_CL X (d + 1) mX11_isIn [.int v, .int l, .int h] w = some (some (.int (if ¬ v < l ∧ ¬ h < v then 1 else 0)), w) := by
  simp only [eX11_isIn, sX11_isIn_0, sX11_isIn_1, sX11_isIn_2, sX11_isIn_5, sX11_isIn_6, sX11_isIn_7, sX11_isIn_10, sX11_isIn_11, sX11_isIn_14, sX11_isIn_15, am_rt_some, am_rt_void, am_rt_none, am_rt_ite, ↓reduceIte, if_true, if_false, and_self, true_and, and_true, true_or, or_true, Bool.false_eq_true, reduceCtorEq]
  by_cases h1 : v < l <;> by_cases h2 : h < v <;> simp only [h1, h2, not_true_eq_false, not_false_eq_true, and_true, true_and, and_false, false_and, if_true, if_false, and_self]
theorem bt_house {LW : LWt} : Bt LW mX10_house mX11_house [] := by
  intro X d I A J hR
  obtain ⟨h1, h2, h3, h4, h5, h6, h7, h8, h9, h10, h11, h12, h13, h14, h15, h16, h17, h18, h19⟩ := hR
  obtain ⟨e1, h, hh, eh⟩ := h1
  have e6 : (nI h < 6) = (h < 6) := am_nlit 6 rfl (by omega) (by omega)
  by_cases c6 : h < 6
  · have n6 : ¬ nI h = 6 := fun q => by
      have := (nI_eq (a := h) (b := 6) (by omega) (by omega)).mp q
      omega
    have e2 : I 81 1 = nI h := e1.symm.trans eh
    refine ⟨nI h, am_u2 I 0 9 (nI (h + 1)), A, J, am_u2 (am_u2 I 0 9 (nI (h + 1))) 81 1 (nI (h + 1)), A, J, ?_, ?_, ?_⟩
    · rw [c_house, eh, if_pos (by rw [e6]; exact c6), am_n1]
    · rw [r_house, show am_u2 I 0 9 (nI (h + 1)) 81 1 = I 81 1 from rfl, e2, if_neg n6, am_n1, ← am_n1, Int32.add_sub_cancel]
    · refine ⟨⟨rfl, h + 1, by omega, rfl⟩, h2, h3, h4, h5, ?_, h7, h8, h9, h10, h11, h12, h13, h14, h15, h16, h17, ?_, h19⟩
      · obtain ⟨g1, g2, a, b, g3, g4, g5, g6, g7⟩ := h6
        refine ⟨g1, g2, a, b, g3, g4, g5, g6, fun j hj => ?_⟩
        obtain ⟨q1, q2⟩ := g7 j hj
        refine ⟨vTold_mono (fun x hx => ?_) (fun x hx => hx) q1, q2⟩
        rw [eh] at hx
        exact nI_up (by omega) x hx
      · exact rShs_c h18 (fun c a b => by funext j; simp only [am_u2, show ¬ c = 0 by omega, show ¬ c = 81 by omega, if_false]) rfl rfl (fun _ _ _ => rfl) rfl rfl
  · have h6' : h = 6 := by omega
    subst h6'
    refine ⟨-3, I, A, J, I, A, J, ?_, ?_, ⟨⟨e1, 6, by omega, eh⟩, h2, h3, h4, h5, h6, h7, h8, h9, h10, h11, h12, h13, h14, h15, h16, h17, h18, h19⟩⟩
    · rw [c_house, eh, if_neg (by rw [e6]; exact c6)]
    · rw [r_house, ← e1, eh, if_pos (by rfl)]
end C43

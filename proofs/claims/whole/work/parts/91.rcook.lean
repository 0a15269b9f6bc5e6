/-! COOKING: the reference -/
section RC
variable {X : Nat × (Nat → Int32)} {d : Nat} {I A : TI} {J : TJ} {w : am_W}
theorem r_bound {x lo hi : Int32} : am_CL X (d + 1) mX11_bound [.int x, .int lo, .int hi] w = some (some (.int (if lo < (if x < hi then x else hi) then (if x < hi then x else hi) else lo)), w) := by
  simp only [eX11_bound, sX11_bound_0, sX11_bound_1, sX11_bound_2, sX11_bound_3, sX11_bound_6, sX11_bound_9, am_rt_some, am_rt_void, am_rt_none, am_rt_ite, ↓reduceIte, if_true, if_false, and_self, true_and, and_true, true_or, or_true, Bool.false_eq_true, reduceCtorEq]
theorem i58 {a b : Nat} : 5 * nI a + nI b = nI (5 * a + b) := by rw [show (5 : Int32) = nI 5 from rfl, i_mul, i_add]
theorem r_cook93 {G : VF} {fi : Int32} (hL : rLaw G (A 87) (I 81 11) (I 81 12)) (h7 : LtrC A) : am_T (am_CL X (d + 48) mX11_cook [.ref 81, .ref 93, .int fi] (am_wd I A J)) (oU fun I' A' J' => Fr [(81, 14), (81, 15), (81, 16), (81, 17)] [88, 89, 91, 93] [] I A J I' A' J' ∧ (∀ j, j < 8 → A' 93 j = A 93 j) ∧ A' 93 8 = mn99 (A 93 8) ∧ ∀ i, i < 5 → A' 93 (9 + i) = gT G (suF (A 93) (A 82) i 8) (A 93 (9 + i)) (A 93 8) fi (nI i) (smf (A 93) 8)) := by
  let g : Nat → Int32 := fun i => gT G (suF (A 93) (A 82) i 8) (A 93 (9 + i)) (A 93 8) fi (nI i) (smf (A 93) 8)
  -- a taste's sum
  have inn : ∀ (m k i : Nat) (I1 A1 : TI) (z5 : Value), k + m = 8 → i < 5 → A1 93 = A 93 → A1 82 = A 82 → A1 89 0 = suF (A 93) (A 82) i k → ∃ n : Nat → Int32, n 0 = suF (A 93) (A 82) i 8 ∧ am_EV X (d + 47) mX11_cook 17 [.ref 81, .ref 93, .int fi, .int (nI i), .int (nI k)] [] (am_wd I1 A1 J) = am_EV X (d + 47) mX11_cook 55 [.ref 81, .ref 93, .int fi, .int (nI i), .int (nI 8)] [] (am_wd I1 (am_u A1 89 n) J) := by
    intro m
    induction m with
    | zero =>
      intro k i I1 A1 z5 hk hi e1 e2 g0
      have h8 : k = 8 := by omega
      subst h8
      exact ⟨A1 89, g0, by simp only [sX11_cook_17, sX11_cook_19, sX11_cook_21, am_rt_some, am_rt_void, am_rt_none, am_rt_ite, ↓reduceIte, if_true, if_false, and_self, true_and, and_true, true_or, or_true, Bool.false_eq_true, reduceCtorEq, show (nI 8 < 8) = False by decide, am_uid]⟩
    | succ m ih =>
      intro k i I1 A1 z5 hk hi e1 e2 g0
      have hlt : (nI k < 8) = True := by rw [am_nlit (x := 8) 8 rfl (show k < 2147483648 by omega) (by decide)]; exact eq_true (by omega)
      obtain ⟨n, n1, n2⟩ := ih (k + 1) i I1 (am_u A1 89 (upd (A1 89) 0 (suF (A 93) (A 82) i k + A 93 k * A 82 (5 * k + i)))) z5 (by omega) hi e1 e2 (by rw [am_u_at, upd_at]; rfl)
      rw [am_uu] at n2
      refine ⟨n, n1, ?_⟩
      have g0' : A1 89 (0 : Int32).toNatClampNeg = suF (A 93) (A 82) i k := g0
      rw [← n2, sX11_cook_17]
      simp only [sX11_cook_19, sX11_cook_21, sX11_cook_24, sX11_cook_25, sX11_cook_28, sX11_cook_29, sX11_cook_30, sX11_cook_31, sX11_cook_32, sX11_cook_34, sX11_cook_35, sX11_cook_36, sX11_cook_39, sX11_cook_40, sX11_cook_42, sX11_cook_43, sX11_cook_44, sX11_cook_45, sX11_cook_46, sX11_cook_47, sX11_cook_48, sX11_cook_49, sX11_cook_52, wo_81, wf_81_0, wv_81_0, wf_81_1, wv_81_1, wp_81_1, wf_81_2, wv_81_2, wp_81_2, wf_81_3, wv_81_3, wf_81_4, wv_81_4, wf_81_5, wv_81_5, wf_81_6, wv_81_6, wp_81_6, wf_81_7, wv_81_7, wp_81_7, wf_81_8, wv_81_8, wf_81_9, wv_81_9, wp_81_9, wf_81_10, wv_81_10, wf_81_11, wv_81_11, wp_81_11, wf_81_12, wv_81_12, wp_81_12, wf_81_13, wv_81_13, wf_81_14, wv_81_14, wp_81_14, wf_81_15, wv_81_15, wp_81_15, wf_81_16, wv_81_16, wp_81_16, wf_81_17, wv_81_17, wp_81_17, wf_81_18, wv_81_18, wf_81_19, wv_81_19, wf_81_20, wv_81_20, wf_81_21, wv_81_21, wf_81_22, wv_81_22, wf_81_23, wv_81_23, wf_81_24, wv_81_24, wf_81_25, wv_81_25, wf_81_26, wv_81_26, wf_81_27, wv_81_27, wf_81_28, wv_81_28, wf_81_29, wv_81_29, wf_81_30, wv_81_30, wf_81_31, wv_81_31, wf_81_32, wv_81_32, wf_81_33, wv_81_33, wp_81_33, wf_81_34, wv_81_34, wf_81_35, wv_81_35, wp_81_35, wf_81_36, wv_81_36, wf_81_37, wv_81_37, wp_81_37, wf_81_38, wv_81_38, wf_81_39, wv_81_39, wf_81_40, wv_81_40, wf_81_41, wv_81_41, wf_81_42, wv_81_42, wp_81_42, wf_81_43, wv_81_43, wp_81_43, wf_81_44, wv_81_44, wp_81_44, wf_81_45, wv_81_45, wf_81_46, wv_81_46, wf_81_47, wv_81_47, wf_81_48, wv_81_48, wp_81_48, wf_81_49, wv_81_49, wf_81_50, wv_81_50, wp_81_50, wi_82, wg_82, ws_82, ww_82, wl_82, wn_82, wi_89, wg_89, ws_89, ww_89, wl_89, wn_89, wi_93, wg_93, ws_93, ww_93, wl_93, wn_93, am_rt_some, am_rt_void, am_rt_none, am_rt_ite, ↓reduceIte, if_true, if_false, and_self, true_and, and_true, true_or, or_true, Bool.false_eq_true, reduceCtorEq, hlt, i58, e1, e2, g0', show am_in 0 6 = true from rfl, am_nin (show k < 14 by omega) (show (14 : Nat) < 2147483648 by omega), am_ncl (show k < 2147483648 by omega), am_nin (show 5 * k + i < 105 by omega) (show (105 : Nat) < 2147483648 by omega), am_ncl (show 5 * k + i < 2147483648 by omega), am_n1]
      rfl
  have fin : ∀ (m i : Nat) (I1 A1 : TI) (z : Value), i + m = 5 → Fr [(81, 14), (81, 15), (81, 16), (81, 17)] [88, 89, 91, 93] [] I A J I1 A1 J → (∀ j, j < 5 → A1 91 j = g j) → (∀ j, j < 9 → A1 93 j = A 93 j) → (∀ j, j < i → A1 93 (9 + j) = g j) → am_T (am_EV X (d + 47) mX11_cook 140 [.ref 81, .ref 93, .int fi, .int (nI i), z] [] (am_wd I1 A1 J)) (oU fun I' A' J' => Fr [(81, 14), (81, 15), (81, 16), (81, 17)] [88, 89, 91, 93] [] I A J I' A' J' ∧ (∀ j, j < 8 → A' 93 j = A 93 j) ∧ A' 93 8 = mn99 (A 93 8) ∧ ∀ i, i < 5 → A' 93 (9 + i) = g i) := by
    intro m
    induction m with
    | zero =>
      intro i I1 A1 z hi f g1 g2 g3
      have i5 : i = 5 := by omega
      subst i5
      have e8 : A1 93 (8 : Int32).toNatClampNeg = A 93 8 := g2 8 (by decide)
      simp only [sX11_cook_140, sX11_cook_141, sX11_cook_142, sX11_cook_163, sX11_cook_164, sX11_cook_166, sX11_cook_168, sX11_cook_169, sX11_cook_171, sX11_cook_172, sX11_cook_173, sX11_cook_174, sX11_cook_177, sX11_cook_178, wi_93, wg_93, ws_93, ww_93, wl_93, wn_93, am_rt_some, am_rt_void, am_rt_none, am_rt_ite, ↓reduceIte, if_true, if_false, and_self, true_and, and_true, true_or, or_true, Bool.false_eq_true, reduceCtorEq, show (nI 5 < 5) = False by decide, show am_in 8 14 = true from rfl, e8]
      refine am_T.ru ⟨f.ua (by decide), fun j hj => ?_, ?_, fun j hj => ?_⟩
      · rw [am_u_at, show (8 : Int32).toNatClampNeg = 8 from rfl, upd_ne (by omega)]; exact g2 j (by omega)
      · rw [am_u_at, show (8 : Int32).toNatClampNeg = 8 from rfl, upd_at]; rfl
      · rw [am_u_at, show (8 : Int32).toNatClampNeg = 8 from rfl, upd_ne (by omega)]; exact g3 j hj
    | succ m ih =>
      intro i I1 A1 z hi f g1 g2 g3
      have hlt : (nI i < 5) = True := by rw [am_nlit (x := 5) 5 rfl (show i < 2147483648 by omega) (by decide)]; exact eq_true (by omega)
      have i9 : (9 : Int32) + nI i = nI (9 + i) := i_add 9 i
      have ei : A1 91 i = g i := g1 i (by omega)
      rw [sX11_cook_140]
      simp only [sX11_cook_141, sX11_cook_142, sX11_cook_145, sX11_cook_146, sX11_cook_148, sX11_cook_149, sX11_cook_150, sX11_cook_151, sX11_cook_154, sX11_cook_155, sX11_cook_156, sX11_cook_157, sX11_cook_160, wo_81, wf_81_0, wv_81_0, wf_81_1, wv_81_1, wp_81_1, wf_81_2, wv_81_2, wp_81_2, wf_81_3, wv_81_3, wf_81_4, wv_81_4, wf_81_5, wv_81_5, wf_81_6, wv_81_6, wp_81_6, wf_81_7, wv_81_7, wp_81_7, wf_81_8, wv_81_8, wf_81_9, wv_81_9, wp_81_9, wf_81_10, wv_81_10, wf_81_11, wv_81_11, wp_81_11, wf_81_12, wv_81_12, wp_81_12, wf_81_13, wv_81_13, wf_81_14, wv_81_14, wp_81_14, wf_81_15, wv_81_15, wp_81_15, wf_81_16, wv_81_16, wp_81_16, wf_81_17, wv_81_17, wp_81_17, wf_81_18, wv_81_18, wf_81_19, wv_81_19, wf_81_20, wv_81_20, wf_81_21, wv_81_21, wf_81_22, wv_81_22, wf_81_23, wv_81_23, wf_81_24, wv_81_24, wf_81_25, wv_81_25, wf_81_26, wv_81_26, wf_81_27, wv_81_27, wf_81_28, wv_81_28, wf_81_29, wv_81_29, wf_81_30, wv_81_30, wf_81_31, wv_81_31, wf_81_32, wv_81_32, wf_81_33, wv_81_33, wp_81_33, wf_81_34, wv_81_34, wf_81_35, wv_81_35, wp_81_35, wf_81_36, wv_81_36, wf_81_37, wv_81_37, wp_81_37, wf_81_38, wv_81_38, wf_81_39, wv_81_39, wf_81_40, wv_81_40, wf_81_41, wv_81_41, wf_81_42, wv_81_42, wp_81_42, wf_81_43, wv_81_43, wp_81_43, wf_81_44, wv_81_44, wp_81_44, wf_81_45, wv_81_45, wf_81_46, wv_81_46, wf_81_47, wv_81_47, wf_81_48, wv_81_48, wp_81_48, wf_81_49, wv_81_49, wf_81_50, wv_81_50, wp_81_50, wi_91, wg_91, ws_91, ww_91, wl_91, wn_91, wi_93, wg_93, ws_93, ww_93, wl_93, wn_93, am_rt_some, am_rt_void, am_rt_none, am_rt_ite, ↓reduceIte, if_true, if_false, and_self, true_and, and_true, true_or, or_true, Bool.false_eq_true, reduceCtorEq, hlt, i9, am_nin (show i < 5 by omega) (show (5 : Nat) < 2147483648 by omega), am_ncl (show i < 2147483648 by omega), am_nin (show 9 + i < 14 by omega) (show (14 : Nat) < 2147483648 by omega), am_ncl (show 9 + i < 2147483648 by omega), ei, am_n1]
      refine ih (i + 1) I1 _ z (by omega) (f.ua (by decide)) (fun j hj => by rw [am_u_ne (show (91 : Nat) ≠ 93 by decide)]; exact g1 j hj) (fun j hj => by rw [am_u_at, upd_ne (by omega)]; exact g2 j hj) (fun j hj => ?_)
      rw [am_u_at]
      by_cases y : j = i
      · subst y; rw [upd_at]
      · rw [upd_ne (by omega)]; exact g3 j (by omega)
  have out : ∀ (m i : Nat) (I1 A1 : TI) (z : Value), i + m = 5 → Fr [(81, 14), (81, 15), (81, 16), (81, 17)] [88, 89, 91] [] I A J I1 A1 J → (∀ j, j < i → A1 91 j = g j) → am_T (am_EV X (d + 47) mX11_cook 2 [.ref 81, .ref 93, .int fi, .int (nI i), z] [] (am_wd I1 A1 J)) (oU fun I' A' J' => Fr [(81, 14), (81, 15), (81, 16), (81, 17)] [88, 89, 91, 93] [] I A J I' A' J' ∧ (∀ j, j < 8 → A' 93 j = A 93 j) ∧ A' 93 8 = mn99 (A 93 8) ∧ ∀ i, i < 5 → A' 93 (9 + i) = g i) := by
    intro m
    induction m with
    | zero =>
      intro i I1 A1 z hi f g1
      have i5 : i = 5 := by omega
      subst i5
      simp only [sX11_cook_2, sX11_cook_3, sX11_cook_4, sX11_cook_138, sX11_cook_139, am_rt_some, am_rt_void, am_rt_none, am_rt_ite, ↓reduceIte, if_true, if_false, and_self, true_and, and_true, true_or, or_true, Bool.false_eq_true, reduceCtorEq, show (nI 5 < 5) = False by decide]
      exact fin 5 0 I1 A1 z rfl (f.mo (by decide) (by decide) (by decide)) (fun j hj => g1 j hj) (fun j hj => by rw [show A1 93 = A 93 from f.a 93 (by decide)]) (fun j hj => absurd hj (Nat.not_lt_zero j))
    | succ m ih =>
      intro i I1 A1 z hi f g1
      have hlt : (nI i < 5) = True := by rw [am_nlit (x := 5) 5 rfl (show i < 2147483648 by omega) (by decide)]; exact eq_true (by omega)
      have i9 : (9 : Int32) + nI i = nI (9 + i) := i_add 9 i
      have ec : A1 93 = A 93 := f.a 93 (by decide)
      have e82 : A1 82 = A 82 := f.a 82 (by decide)
      obtain ⟨n, n1, n2⟩ := inn 8 0 i I1 (am_u A1 89 (upd (A1 89) 0 0)) z rfl (by omega) ec e82 (by rw [am_u_at, upd_at]; rfl)
      rw [am_uu] at n2
      rw [sX11_cook_2]
      simp only [sX11_cook_3, sX11_cook_4, sX11_cook_7, sX11_cook_8, sX11_cook_11, sX11_cook_12, sX11_cook_13, sX11_cook_14, sX11_cook_15, wo_81, wf_81_0, wv_81_0, wf_81_1, wv_81_1, wp_81_1, wf_81_2, wv_81_2, wp_81_2, wf_81_3, wv_81_3, wf_81_4, wv_81_4, wf_81_5, wv_81_5, wf_81_6, wv_81_6, wp_81_6, wf_81_7, wv_81_7, wp_81_7, wf_81_8, wv_81_8, wf_81_9, wv_81_9, wp_81_9, wf_81_10, wv_81_10, wf_81_11, wv_81_11, wp_81_11, wf_81_12, wv_81_12, wp_81_12, wf_81_13, wv_81_13, wf_81_14, wv_81_14, wp_81_14, wf_81_15, wv_81_15, wp_81_15, wf_81_16, wv_81_16, wp_81_16, wf_81_17, wv_81_17, wp_81_17, wf_81_18, wv_81_18, wf_81_19, wv_81_19, wf_81_20, wv_81_20, wf_81_21, wv_81_21, wf_81_22, wv_81_22, wf_81_23, wv_81_23, wf_81_24, wv_81_24, wf_81_25, wv_81_25, wf_81_26, wv_81_26, wf_81_27, wv_81_27, wf_81_28, wv_81_28, wf_81_29, wv_81_29, wf_81_30, wv_81_30, wf_81_31, wv_81_31, wf_81_32, wv_81_32, wf_81_33, wv_81_33, wp_81_33, wf_81_34, wv_81_34, wf_81_35, wv_81_35, wp_81_35, wf_81_36, wv_81_36, wf_81_37, wv_81_37, wp_81_37, wf_81_38, wv_81_38, wf_81_39, wv_81_39, wf_81_40, wv_81_40, wf_81_41, wv_81_41, wf_81_42, wv_81_42, wp_81_42, wf_81_43, wv_81_43, wp_81_43, wf_81_44, wv_81_44, wp_81_44, wf_81_45, wv_81_45, wf_81_46, wv_81_46, wf_81_47, wv_81_47, wf_81_48, wv_81_48, wp_81_48, wf_81_49, wv_81_49, wf_81_50, wv_81_50, wp_81_50, wi_89, wg_89, ws_89, ww_89, wl_89, wn_89, am_rt_some, am_rt_void, am_rt_none, am_rt_ite, ↓reduceIte, if_true, if_false, and_self, true_and, and_true, true_or, or_true, Bool.false_eq_true, reduceCtorEq, hlt, show am_in 0 6 = true from rfl]
      rw [show am_EV X (d + 47) mX11_cook 17 [.ref 81, .ref 93, .int fi, .int (nI i), .int 0] [] (am_wd I1 (am_u A1 89 (upd (A1 89) (0 : Int32).toNatClampNeg 0)) J) = _ from n2]
      have ec2 : am_u A1 89 n 93 = A 93 := ec
      simp only [sX11_cook_55, sX11_cook_56, sX11_cook_59, sX11_cook_60, sX11_cook_61, sX11_cook_63, sX11_cook_64, sX11_cook_65, sX11_cook_66, sX11_cook_67, sX11_cook_68, sX11_cook_71, sX11_cook_72, sX11_cook_73, sX11_cook_75, sX11_cook_76, sX11_cook_77, sX11_cook_78, sX11_cook_81, sX11_cook_82, sX11_cook_83, sX11_cook_84, sX11_cook_85, sX11_cook_88, sX11_cook_89, sX11_cook_90, sX11_cook_91, sX11_cook_92, sX11_cook_95, sX11_cook_96, sX11_cook_97, sX11_cook_98, wo_81, wf_81_0, wv_81_0, wf_81_1, wv_81_1, wp_81_1, wf_81_2, wv_81_2, wp_81_2, wf_81_3, wv_81_3, wf_81_4, wv_81_4, wf_81_5, wv_81_5, wf_81_6, wv_81_6, wp_81_6, wf_81_7, wv_81_7, wp_81_7, wf_81_8, wv_81_8, wf_81_9, wv_81_9, wp_81_9, wf_81_10, wv_81_10, wf_81_11, wv_81_11, wp_81_11, wf_81_12, wv_81_12, wp_81_12, wf_81_13, wv_81_13, wf_81_14, wv_81_14, wp_81_14, wf_81_15, wv_81_15, wp_81_15, wf_81_16, wv_81_16, wp_81_16, wf_81_17, wv_81_17, wp_81_17, wf_81_18, wv_81_18, wf_81_19, wv_81_19, wf_81_20, wv_81_20, wf_81_21, wv_81_21, wf_81_22, wv_81_22, wf_81_23, wv_81_23, wf_81_24, wv_81_24, wf_81_25, wv_81_25, wf_81_26, wv_81_26, wf_81_27, wv_81_27, wf_81_28, wv_81_28, wf_81_29, wv_81_29, wf_81_30, wv_81_30, wf_81_31, wv_81_31, wf_81_32, wv_81_32, wf_81_33, wv_81_33, wp_81_33, wf_81_34, wv_81_34, wf_81_35, wv_81_35, wp_81_35, wf_81_36, wv_81_36, wf_81_37, wv_81_37, wp_81_37, wf_81_38, wv_81_38, wf_81_39, wv_81_39, wf_81_40, wv_81_40, wf_81_41, wv_81_41, wf_81_42, wv_81_42, wp_81_42, wf_81_43, wv_81_43, wp_81_43, wf_81_44, wv_81_44, wp_81_44, wf_81_45, wv_81_45, wf_81_46, wv_81_46, wf_81_47, wv_81_47, wf_81_48, wv_81_48, wp_81_48, wf_81_49, wv_81_49, wf_81_50, wv_81_50, wp_81_50, wi_89, wg_89, ws_89, ww_89, wl_89, wn_89, wi_93, wg_93, ws_93, ww_93, wl_93, wn_93, am_rt_some, am_rt_void, am_rt_none, am_rt_ite, ↓reduceIte, if_true, if_false, and_self, true_and, and_true, true_or, or_true, Bool.false_eq_true, reduceCtorEq, i9, am_u_at, am_uu, am_u_ne (show (93 : Nat) ≠ 89 by decide), ec, show am_in 1 6 = true from rfl, show am_in 2 6 = true from rfl, show am_in 3 6 = true from rfl, show am_in 4 6 = true from rfl, show am_in 5 6 = true from rfl, show am_in 8 14 = true from rfl, am_nin (show 9 + i < 14 by omega) (show (14 : Nat) < 2147483648 by omega), am_ncl (show 9 + i < 2147483648 by omega), r_inAll93]
      simp only [sX11_cook_101, sX11_cook_102, sX11_cook_103, sX11_cook_106, sX11_cook_107, sX11_cook_108, sX11_cook_110, sX11_cook_111, sX11_cook_112, sX11_cook_113, sX11_cook_114, wo_81, wf_81_0, wv_81_0, wf_81_1, wv_81_1, wp_81_1, wf_81_2, wv_81_2, wp_81_2, wf_81_3, wv_81_3, wf_81_4, wv_81_4, wf_81_5, wv_81_5, wf_81_6, wv_81_6, wp_81_6, wf_81_7, wv_81_7, wp_81_7, wf_81_8, wv_81_8, wf_81_9, wv_81_9, wp_81_9, wf_81_10, wv_81_10, wf_81_11, wv_81_11, wp_81_11, wf_81_12, wv_81_12, wp_81_12, wf_81_13, wv_81_13, wf_81_14, wv_81_14, wp_81_14, wf_81_15, wv_81_15, wp_81_15, wf_81_16, wv_81_16, wp_81_16, wf_81_17, wv_81_17, wp_81_17, wf_81_18, wv_81_18, wf_81_19, wv_81_19, wf_81_20, wv_81_20, wf_81_21, wv_81_21, wf_81_22, wv_81_22, wf_81_23, wv_81_23, wf_81_24, wv_81_24, wf_81_25, wv_81_25, wf_81_26, wv_81_26, wf_81_27, wv_81_27, wf_81_28, wv_81_28, wf_81_29, wv_81_29, wf_81_30, wv_81_30, wf_81_31, wv_81_31, wf_81_32, wv_81_32, wf_81_33, wv_81_33, wp_81_33, wf_81_34, wv_81_34, wf_81_35, wv_81_35, wp_81_35, wf_81_36, wv_81_36, wf_81_37, wv_81_37, wp_81_37, wf_81_38, wv_81_38, wf_81_39, wv_81_39, wf_81_40, wv_81_40, wf_81_41, wv_81_41, wf_81_42, wv_81_42, wp_81_42, wf_81_43, wv_81_43, wp_81_43, wf_81_44, wv_81_44, wp_81_44, wf_81_45, wv_81_45, wf_81_46, wv_81_46, wf_81_47, wv_81_47, wf_81_48, wv_81_48, wp_81_48, wf_81_49, wv_81_49, wf_81_50, wv_81_50, wp_81_50, wi_89, wg_89, ws_89, ww_89, wl_89, wn_89, wi_91, wg_91, ws_91, ww_91, wl_91, wn_91, wi_93, wg_93, ws_93, ww_93, wl_93, wn_93, am_rt_some, am_rt_void, am_rt_none, am_rt_ite, ↓reduceIte, if_true, if_false, and_self, true_and, and_true, true_or, or_true, Bool.false_eq_true, reduceCtorEq, i9, am_u_at, am_uu, am_u_ne (show (93 : Nat) ≠ 89 by decide), ec, show am_in 5 6 = true from rfl, am_nin (show 9 + i < 14 by omega) (show (14 : Nat) < 2147483648 by omega), am_ncl (show 9 + i < 2147483648 by omega)]
      generalize hN : upd (upd (upd (upd (upd n (Int32.toNatClampNeg 1) (A 93 (9 + i))) (Int32.toNatClampNeg 2) (A 93 (Int32.toNatClampNeg 8))) (Int32.toNatClampNeg 3) fi) (Int32.toNatClampNeg 4) (nI i)) (Int32.toNatClampNeg 5) (smf (A 93) 8) = N
      have f2 : Fr [(81, 14), (81, 15), (81, 16), (81, 17)] [88, 89, 91] [] I A J I1 (am_u A1 89 N) J := f.ua (by decide)
      have h6 : ∀ j, j < 6 → am_u A1 89 N 89 j = nmv (suF (A 93) (A 82) i 8) (A 93 (9 + i)) (A 93 8) fi (nI i) (smf (A 93) 8) j := by
        intro j hj
        rw [am_u_at, ← hN]
        rcases (by omega : j = 0 ∨ j = 1 ∨ j = 2 ∨ j = 3 ∨ j = 4 ∨ j = 5) with rfl | rfl | rfl | rfl | rfl | rfl
        · exact n1
        · rfl
        · rfl
        · rfl
        · rfl
        · rfl
      refine am_T.rtI (r_grows (t_lar f2 (by decide) hL) h6 (fun j hj => by rw [f2.a 90 (by decide)]; exact h7 j hj)) ?_
      intro I2 A2 J2 f3
      have j2 : J2 = J := f3.jeq
      subst j2
      have F3 := f2.tr (f3.mo (la' := [88, 89, 91]) (by decide) (by decide) (by decide))
      have e91 : A2 91 = A1 91 := by rw [f3.a 91 (by decide), am_u_ne (show (91 : Nat) ≠ 89 by decide)]
      simp only [sX11_cook_117, sX11_cook_119, sX11_cook_121, sX11_cook_124, sX11_cook_125, sX11_cook_126, sX11_cook_128, sX11_cook_131, sX11_cook_132, sX11_cook_135, wi_91, wg_91, ws_91, ww_91, wl_91, wn_91, am_rt_some, am_rt_void, am_rt_none, am_rt_ite, ↓reduceIte, if_true, if_false, and_self, true_and, and_true, true_or, or_true, Bool.false_eq_true, reduceCtorEq, r_bound, am_nin (show i < 5 by omega) (show (5 : Nat) < 2147483648 by omega), am_ncl (show i < 2147483648 by omega), am_n1]
      refine ih (i + 1) I2 _ _ (by omega) (F3.ua (by decide)) (fun j hj => ?_)
      rw [am_u_at]
      by_cases y : j = i
      · subst y; rw [upd_at]; rfl
      · rw [upd_ne y, e91]; exact g1 j (by omega)
  simp only [eX11_cook, sX11_cook_0, sX11_cook_1]
  exact out 5 0 I A _ rfl Fr.rf (fun j hj => absurd hj (Nat.not_lt_zero j))
theorem r_cook105 {G : VF} {fi : Int32} (hL : rLaw G (A 87) (I 81 11) (I 81 12)) (h7 : LtrC A) : am_T (am_CL X (d + 48) mX11_cook [.ref 81, .ref 105, .int fi] (am_wd I A J)) (oU fun I' A' J' => Fr [(81, 14), (81, 15), (81, 16), (81, 17)] [88, 89, 91, 105] [] I A J I' A' J' ∧ (∀ j, j < 8 → A' 105 j = A 105 j) ∧ A' 105 8 = mn99 (A 105 8) ∧ ∀ i, i < 5 → A' 105 (9 + i) = gT G (suF (A 105) (A 82) i 8) (A 105 (9 + i)) (A 105 8) fi (nI i) (smf (A 105) 8)) := by
  let g : Nat → Int32 := fun i => gT G (suF (A 105) (A 82) i 8) (A 105 (9 + i)) (A 105 8) fi (nI i) (smf (A 105) 8)
  -- a taste's sum
  have inn : ∀ (m k i : Nat) (I1 A1 : TI) (z5 : Value), k + m = 8 → i < 5 → A1 105 = A 105 → A1 82 = A 82 → A1 89 0 = suF (A 105) (A 82) i k → ∃ n : Nat → Int32, n 0 = suF (A 105) (A 82) i 8 ∧ am_EV X (d + 47) mX11_cook 17 [.ref 81, .ref 105, .int fi, .int (nI i), .int (nI k)] [] (am_wd I1 A1 J) = am_EV X (d + 47) mX11_cook 55 [.ref 81, .ref 105, .int fi, .int (nI i), .int (nI 8)] [] (am_wd I1 (am_u A1 89 n) J) := by
    intro m
    induction m with
    | zero =>
      intro k i I1 A1 z5 hk hi e1 e2 g0
      have h8 : k = 8 := by omega
      subst h8
      exact ⟨A1 89, g0, by simp only [sX11_cook_17, sX11_cook_19, sX11_cook_21, am_rt_some, am_rt_void, am_rt_none, am_rt_ite, ↓reduceIte, if_true, if_false, and_self, true_and, and_true, true_or, or_true, Bool.false_eq_true, reduceCtorEq, show (nI 8 < 8) = False by decide, am_uid]⟩
    | succ m ih =>
      intro k i I1 A1 z5 hk hi e1 e2 g0
      have hlt : (nI k < 8) = True := by rw [am_nlit (x := 8) 8 rfl (show k < 2147483648 by omega) (by decide)]; exact eq_true (by omega)
      obtain ⟨n, n1, n2⟩ := ih (k + 1) i I1 (am_u A1 89 (upd (A1 89) 0 (suF (A 105) (A 82) i k + A 105 k * A 82 (5 * k + i)))) z5 (by omega) hi e1 e2 (by rw [am_u_at, upd_at]; rfl)
      rw [am_uu] at n2
      refine ⟨n, n1, ?_⟩
      have g0' : A1 89 (0 : Int32).toNatClampNeg = suF (A 105) (A 82) i k := g0
      rw [← n2, sX11_cook_17]
      simp only [sX11_cook_19, sX11_cook_21, sX11_cook_24, sX11_cook_25, sX11_cook_28, sX11_cook_29, sX11_cook_30, sX11_cook_31, sX11_cook_32, sX11_cook_34, sX11_cook_35, sX11_cook_36, sX11_cook_39, sX11_cook_40, sX11_cook_42, sX11_cook_43, sX11_cook_44, sX11_cook_45, sX11_cook_46, sX11_cook_47, sX11_cook_48, sX11_cook_49, sX11_cook_52, wo_81, wf_81_0, wv_81_0, wf_81_1, wv_81_1, wp_81_1, wf_81_2, wv_81_2, wp_81_2, wf_81_3, wv_81_3, wf_81_4, wv_81_4, wf_81_5, wv_81_5, wf_81_6, wv_81_6, wp_81_6, wf_81_7, wv_81_7, wp_81_7, wf_81_8, wv_81_8, wf_81_9, wv_81_9, wp_81_9, wf_81_10, wv_81_10, wf_81_11, wv_81_11, wp_81_11, wf_81_12, wv_81_12, wp_81_12, wf_81_13, wv_81_13, wf_81_14, wv_81_14, wp_81_14, wf_81_15, wv_81_15, wp_81_15, wf_81_16, wv_81_16, wp_81_16, wf_81_17, wv_81_17, wp_81_17, wf_81_18, wv_81_18, wf_81_19, wv_81_19, wf_81_20, wv_81_20, wf_81_21, wv_81_21, wf_81_22, wv_81_22, wf_81_23, wv_81_23, wf_81_24, wv_81_24, wf_81_25, wv_81_25, wf_81_26, wv_81_26, wf_81_27, wv_81_27, wf_81_28, wv_81_28, wf_81_29, wv_81_29, wf_81_30, wv_81_30, wf_81_31, wv_81_31, wf_81_32, wv_81_32, wf_81_33, wv_81_33, wp_81_33, wf_81_34, wv_81_34, wf_81_35, wv_81_35, wp_81_35, wf_81_36, wv_81_36, wf_81_37, wv_81_37, wp_81_37, wf_81_38, wv_81_38, wf_81_39, wv_81_39, wf_81_40, wv_81_40, wf_81_41, wv_81_41, wf_81_42, wv_81_42, wp_81_42, wf_81_43, wv_81_43, wp_81_43, wf_81_44, wv_81_44, wp_81_44, wf_81_45, wv_81_45, wf_81_46, wv_81_46, wf_81_47, wv_81_47, wf_81_48, wv_81_48, wp_81_48, wf_81_49, wv_81_49, wf_81_50, wv_81_50, wp_81_50, wi_82, wg_82, ws_82, ww_82, wl_82, wn_82, wi_89, wg_89, ws_89, ww_89, wl_89, wn_89, wi_105, wg_105, ws_105, ww_105, wl_105, wn_105, am_rt_some, am_rt_void, am_rt_none, am_rt_ite, ↓reduceIte, if_true, if_false, and_self, true_and, and_true, true_or, or_true, Bool.false_eq_true, reduceCtorEq, hlt, i58, e1, e2, g0', show am_in 0 6 = true from rfl, am_nin (show k < 14 by omega) (show (14 : Nat) < 2147483648 by omega), am_ncl (show k < 2147483648 by omega), am_nin (show 5 * k + i < 105 by omega) (show (105 : Nat) < 2147483648 by omega), am_ncl (show 5 * k + i < 2147483648 by omega), am_n1]
      rfl
  have fin : ∀ (m i : Nat) (I1 A1 : TI) (z : Value), i + m = 5 → Fr [(81, 14), (81, 15), (81, 16), (81, 17)] [88, 89, 91, 105] [] I A J I1 A1 J → (∀ j, j < 5 → A1 91 j = g j) → (∀ j, j < 9 → A1 105 j = A 105 j) → (∀ j, j < i → A1 105 (9 + j) = g j) → am_T (am_EV X (d + 47) mX11_cook 140 [.ref 81, .ref 105, .int fi, .int (nI i), z] [] (am_wd I1 A1 J)) (oU fun I' A' J' => Fr [(81, 14), (81, 15), (81, 16), (81, 17)] [88, 89, 91, 105] [] I A J I' A' J' ∧ (∀ j, j < 8 → A' 105 j = A 105 j) ∧ A' 105 8 = mn99 (A 105 8) ∧ ∀ i, i < 5 → A' 105 (9 + i) = g i) := by
    intro m
    induction m with
    | zero =>
      intro i I1 A1 z hi f g1 g2 g3
      have i5 : i = 5 := by omega
      subst i5
      have e8 : A1 105 (8 : Int32).toNatClampNeg = A 105 8 := g2 8 (by decide)
      simp only [sX11_cook_140, sX11_cook_141, sX11_cook_142, sX11_cook_163, sX11_cook_164, sX11_cook_166, sX11_cook_168, sX11_cook_169, sX11_cook_171, sX11_cook_172, sX11_cook_173, sX11_cook_174, sX11_cook_177, sX11_cook_178, wi_105, wg_105, ws_105, ww_105, wl_105, wn_105, am_rt_some, am_rt_void, am_rt_none, am_rt_ite, ↓reduceIte, if_true, if_false, and_self, true_and, and_true, true_or, or_true, Bool.false_eq_true, reduceCtorEq, show (nI 5 < 5) = False by decide, show am_in 8 14 = true from rfl, e8]
      refine am_T.ru ⟨f.ua (by decide), fun j hj => ?_, ?_, fun j hj => ?_⟩
      · rw [am_u_at, show (8 : Int32).toNatClampNeg = 8 from rfl, upd_ne (by omega)]; exact g2 j (by omega)
      · rw [am_u_at, show (8 : Int32).toNatClampNeg = 8 from rfl, upd_at]; rfl
      · rw [am_u_at, show (8 : Int32).toNatClampNeg = 8 from rfl, upd_ne (by omega)]; exact g3 j hj
    | succ m ih =>
      intro i I1 A1 z hi f g1 g2 g3
      have hlt : (nI i < 5) = True := by rw [am_nlit (x := 5) 5 rfl (show i < 2147483648 by omega) (by decide)]; exact eq_true (by omega)
      have i9 : (9 : Int32) + nI i = nI (9 + i) := i_add 9 i
      have ei : A1 91 i = g i := g1 i (by omega)
      rw [sX11_cook_140]
      simp only [sX11_cook_141, sX11_cook_142, sX11_cook_145, sX11_cook_146, sX11_cook_148, sX11_cook_149, sX11_cook_150, sX11_cook_151, sX11_cook_154, sX11_cook_155, sX11_cook_156, sX11_cook_157, sX11_cook_160, wo_81, wf_81_0, wv_81_0, wf_81_1, wv_81_1, wp_81_1, wf_81_2, wv_81_2, wp_81_2, wf_81_3, wv_81_3, wf_81_4, wv_81_4, wf_81_5, wv_81_5, wf_81_6, wv_81_6, wp_81_6, wf_81_7, wv_81_7, wp_81_7, wf_81_8, wv_81_8, wf_81_9, wv_81_9, wp_81_9, wf_81_10, wv_81_10, wf_81_11, wv_81_11, wp_81_11, wf_81_12, wv_81_12, wp_81_12, wf_81_13, wv_81_13, wf_81_14, wv_81_14, wp_81_14, wf_81_15, wv_81_15, wp_81_15, wf_81_16, wv_81_16, wp_81_16, wf_81_17, wv_81_17, wp_81_17, wf_81_18, wv_81_18, wf_81_19, wv_81_19, wf_81_20, wv_81_20, wf_81_21, wv_81_21, wf_81_22, wv_81_22, wf_81_23, wv_81_23, wf_81_24, wv_81_24, wf_81_25, wv_81_25, wf_81_26, wv_81_26, wf_81_27, wv_81_27, wf_81_28, wv_81_28, wf_81_29, wv_81_29, wf_81_30, wv_81_30, wf_81_31, wv_81_31, wf_81_32, wv_81_32, wf_81_33, wv_81_33, wp_81_33, wf_81_34, wv_81_34, wf_81_35, wv_81_35, wp_81_35, wf_81_36, wv_81_36, wf_81_37, wv_81_37, wp_81_37, wf_81_38, wv_81_38, wf_81_39, wv_81_39, wf_81_40, wv_81_40, wf_81_41, wv_81_41, wf_81_42, wv_81_42, wp_81_42, wf_81_43, wv_81_43, wp_81_43, wf_81_44, wv_81_44, wp_81_44, wf_81_45, wv_81_45, wf_81_46, wv_81_46, wf_81_47, wv_81_47, wf_81_48, wv_81_48, wp_81_48, wf_81_49, wv_81_49, wf_81_50, wv_81_50, wp_81_50, wi_91, wg_91, ws_91, ww_91, wl_91, wn_91, wi_105, wg_105, ws_105, ww_105, wl_105, wn_105, am_rt_some, am_rt_void, am_rt_none, am_rt_ite, ↓reduceIte, if_true, if_false, and_self, true_and, and_true, true_or, or_true, Bool.false_eq_true, reduceCtorEq, hlt, i9, am_nin (show i < 5 by omega) (show (5 : Nat) < 2147483648 by omega), am_ncl (show i < 2147483648 by omega), am_nin (show 9 + i < 14 by omega) (show (14 : Nat) < 2147483648 by omega), am_ncl (show 9 + i < 2147483648 by omega), ei, am_n1]
      refine ih (i + 1) I1 _ z (by omega) (f.ua (by decide)) (fun j hj => by rw [am_u_ne (show (91 : Nat) ≠ 105 by decide)]; exact g1 j hj) (fun j hj => by rw [am_u_at, upd_ne (by omega)]; exact g2 j hj) (fun j hj => ?_)
      rw [am_u_at]
      by_cases y : j = i
      · subst y; rw [upd_at]
      · rw [upd_ne (by omega)]; exact g3 j (by omega)
  have out : ∀ (m i : Nat) (I1 A1 : TI) (z : Value), i + m = 5 → Fr [(81, 14), (81, 15), (81, 16), (81, 17)] [88, 89, 91] [] I A J I1 A1 J → (∀ j, j < i → A1 91 j = g j) → am_T (am_EV X (d + 47) mX11_cook 2 [.ref 81, .ref 105, .int fi, .int (nI i), z] [] (am_wd I1 A1 J)) (oU fun I' A' J' => Fr [(81, 14), (81, 15), (81, 16), (81, 17)] [88, 89, 91, 105] [] I A J I' A' J' ∧ (∀ j, j < 8 → A' 105 j = A 105 j) ∧ A' 105 8 = mn99 (A 105 8) ∧ ∀ i, i < 5 → A' 105 (9 + i) = g i) := by
    intro m
    induction m with
    | zero =>
      intro i I1 A1 z hi f g1
      have i5 : i = 5 := by omega
      subst i5
      simp only [sX11_cook_2, sX11_cook_3, sX11_cook_4, sX11_cook_138, sX11_cook_139, am_rt_some, am_rt_void, am_rt_none, am_rt_ite, ↓reduceIte, if_true, if_false, and_self, true_and, and_true, true_or, or_true, Bool.false_eq_true, reduceCtorEq, show (nI 5 < 5) = False by decide]
      exact fin 5 0 I1 A1 z rfl (f.mo (by decide) (by decide) (by decide)) (fun j hj => g1 j hj) (fun j hj => by rw [show A1 105 = A 105 from f.a 105 (by decide)]) (fun j hj => absurd hj (Nat.not_lt_zero j))
    | succ m ih =>
      intro i I1 A1 z hi f g1
      have hlt : (nI i < 5) = True := by rw [am_nlit (x := 5) 5 rfl (show i < 2147483648 by omega) (by decide)]; exact eq_true (by omega)
      have i9 : (9 : Int32) + nI i = nI (9 + i) := i_add 9 i
      have ec : A1 105 = A 105 := f.a 105 (by decide)
      have e82 : A1 82 = A 82 := f.a 82 (by decide)
      obtain ⟨n, n1, n2⟩ := inn 8 0 i I1 (am_u A1 89 (upd (A1 89) 0 0)) z rfl (by omega) ec e82 (by rw [am_u_at, upd_at]; rfl)
      rw [am_uu] at n2
      rw [sX11_cook_2]
      simp only [sX11_cook_3, sX11_cook_4, sX11_cook_7, sX11_cook_8, sX11_cook_11, sX11_cook_12, sX11_cook_13, sX11_cook_14, sX11_cook_15, wo_81, wf_81_0, wv_81_0, wf_81_1, wv_81_1, wp_81_1, wf_81_2, wv_81_2, wp_81_2, wf_81_3, wv_81_3, wf_81_4, wv_81_4, wf_81_5, wv_81_5, wf_81_6, wv_81_6, wp_81_6, wf_81_7, wv_81_7, wp_81_7, wf_81_8, wv_81_8, wf_81_9, wv_81_9, wp_81_9, wf_81_10, wv_81_10, wf_81_11, wv_81_11, wp_81_11, wf_81_12, wv_81_12, wp_81_12, wf_81_13, wv_81_13, wf_81_14, wv_81_14, wp_81_14, wf_81_15, wv_81_15, wp_81_15, wf_81_16, wv_81_16, wp_81_16, wf_81_17, wv_81_17, wp_81_17, wf_81_18, wv_81_18, wf_81_19, wv_81_19, wf_81_20, wv_81_20, wf_81_21, wv_81_21, wf_81_22, wv_81_22, wf_81_23, wv_81_23, wf_81_24, wv_81_24, wf_81_25, wv_81_25, wf_81_26, wv_81_26, wf_81_27, wv_81_27, wf_81_28, wv_81_28, wf_81_29, wv_81_29, wf_81_30, wv_81_30, wf_81_31, wv_81_31, wf_81_32, wv_81_32, wf_81_33, wv_81_33, wp_81_33, wf_81_34, wv_81_34, wf_81_35, wv_81_35, wp_81_35, wf_81_36, wv_81_36, wf_81_37, wv_81_37, wp_81_37, wf_81_38, wv_81_38, wf_81_39, wv_81_39, wf_81_40, wv_81_40, wf_81_41, wv_81_41, wf_81_42, wv_81_42, wp_81_42, wf_81_43, wv_81_43, wp_81_43, wf_81_44, wv_81_44, wp_81_44, wf_81_45, wv_81_45, wf_81_46, wv_81_46, wf_81_47, wv_81_47, wf_81_48, wv_81_48, wp_81_48, wf_81_49, wv_81_49, wf_81_50, wv_81_50, wp_81_50, wi_89, wg_89, ws_89, ww_89, wl_89, wn_89, am_rt_some, am_rt_void, am_rt_none, am_rt_ite, ↓reduceIte, if_true, if_false, and_self, true_and, and_true, true_or, or_true, Bool.false_eq_true, reduceCtorEq, hlt, show am_in 0 6 = true from rfl]
      rw [show am_EV X (d + 47) mX11_cook 17 [.ref 81, .ref 105, .int fi, .int (nI i), .int 0] [] (am_wd I1 (am_u A1 89 (upd (A1 89) (0 : Int32).toNatClampNeg 0)) J) = _ from n2]
      have ec2 : am_u A1 89 n 105 = A 105 := ec
      simp only [sX11_cook_55, sX11_cook_56, sX11_cook_59, sX11_cook_60, sX11_cook_61, sX11_cook_63, sX11_cook_64, sX11_cook_65, sX11_cook_66, sX11_cook_67, sX11_cook_68, sX11_cook_71, sX11_cook_72, sX11_cook_73, sX11_cook_75, sX11_cook_76, sX11_cook_77, sX11_cook_78, sX11_cook_81, sX11_cook_82, sX11_cook_83, sX11_cook_84, sX11_cook_85, sX11_cook_88, sX11_cook_89, sX11_cook_90, sX11_cook_91, sX11_cook_92, sX11_cook_95, sX11_cook_96, sX11_cook_97, sX11_cook_98, wo_81, wf_81_0, wv_81_0, wf_81_1, wv_81_1, wp_81_1, wf_81_2, wv_81_2, wp_81_2, wf_81_3, wv_81_3, wf_81_4, wv_81_4, wf_81_5, wv_81_5, wf_81_6, wv_81_6, wp_81_6, wf_81_7, wv_81_7, wp_81_7, wf_81_8, wv_81_8, wf_81_9, wv_81_9, wp_81_9, wf_81_10, wv_81_10, wf_81_11, wv_81_11, wp_81_11, wf_81_12, wv_81_12, wp_81_12, wf_81_13, wv_81_13, wf_81_14, wv_81_14, wp_81_14, wf_81_15, wv_81_15, wp_81_15, wf_81_16, wv_81_16, wp_81_16, wf_81_17, wv_81_17, wp_81_17, wf_81_18, wv_81_18, wf_81_19, wv_81_19, wf_81_20, wv_81_20, wf_81_21, wv_81_21, wf_81_22, wv_81_22, wf_81_23, wv_81_23, wf_81_24, wv_81_24, wf_81_25, wv_81_25, wf_81_26, wv_81_26, wf_81_27, wv_81_27, wf_81_28, wv_81_28, wf_81_29, wv_81_29, wf_81_30, wv_81_30, wf_81_31, wv_81_31, wf_81_32, wv_81_32, wf_81_33, wv_81_33, wp_81_33, wf_81_34, wv_81_34, wf_81_35, wv_81_35, wp_81_35, wf_81_36, wv_81_36, wf_81_37, wv_81_37, wp_81_37, wf_81_38, wv_81_38, wf_81_39, wv_81_39, wf_81_40, wv_81_40, wf_81_41, wv_81_41, wf_81_42, wv_81_42, wp_81_42, wf_81_43, wv_81_43, wp_81_43, wf_81_44, wv_81_44, wp_81_44, wf_81_45, wv_81_45, wf_81_46, wv_81_46, wf_81_47, wv_81_47, wf_81_48, wv_81_48, wp_81_48, wf_81_49, wv_81_49, wf_81_50, wv_81_50, wp_81_50, wi_89, wg_89, ws_89, ww_89, wl_89, wn_89, wi_105, wg_105, ws_105, ww_105, wl_105, wn_105, am_rt_some, am_rt_void, am_rt_none, am_rt_ite, ↓reduceIte, if_true, if_false, and_self, true_and, and_true, true_or, or_true, Bool.false_eq_true, reduceCtorEq, i9, am_u_at, am_uu, am_u_ne (show (105 : Nat) ≠ 89 by decide), ec, show am_in 1 6 = true from rfl, show am_in 2 6 = true from rfl, show am_in 3 6 = true from rfl, show am_in 4 6 = true from rfl, show am_in 5 6 = true from rfl, show am_in 8 14 = true from rfl, am_nin (show 9 + i < 14 by omega) (show (14 : Nat) < 2147483648 by omega), am_ncl (show 9 + i < 2147483648 by omega), r_inAll105]
      simp only [sX11_cook_101, sX11_cook_102, sX11_cook_103, sX11_cook_106, sX11_cook_107, sX11_cook_108, sX11_cook_110, sX11_cook_111, sX11_cook_112, sX11_cook_113, sX11_cook_114, wo_81, wf_81_0, wv_81_0, wf_81_1, wv_81_1, wp_81_1, wf_81_2, wv_81_2, wp_81_2, wf_81_3, wv_81_3, wf_81_4, wv_81_4, wf_81_5, wv_81_5, wf_81_6, wv_81_6, wp_81_6, wf_81_7, wv_81_7, wp_81_7, wf_81_8, wv_81_8, wf_81_9, wv_81_9, wp_81_9, wf_81_10, wv_81_10, wf_81_11, wv_81_11, wp_81_11, wf_81_12, wv_81_12, wp_81_12, wf_81_13, wv_81_13, wf_81_14, wv_81_14, wp_81_14, wf_81_15, wv_81_15, wp_81_15, wf_81_16, wv_81_16, wp_81_16, wf_81_17, wv_81_17, wp_81_17, wf_81_18, wv_81_18, wf_81_19, wv_81_19, wf_81_20, wv_81_20, wf_81_21, wv_81_21, wf_81_22, wv_81_22, wf_81_23, wv_81_23, wf_81_24, wv_81_24, wf_81_25, wv_81_25, wf_81_26, wv_81_26, wf_81_27, wv_81_27, wf_81_28, wv_81_28, wf_81_29, wv_81_29, wf_81_30, wv_81_30, wf_81_31, wv_81_31, wf_81_32, wv_81_32, wf_81_33, wv_81_33, wp_81_33, wf_81_34, wv_81_34, wf_81_35, wv_81_35, wp_81_35, wf_81_36, wv_81_36, wf_81_37, wv_81_37, wp_81_37, wf_81_38, wv_81_38, wf_81_39, wv_81_39, wf_81_40, wv_81_40, wf_81_41, wv_81_41, wf_81_42, wv_81_42, wp_81_42, wf_81_43, wv_81_43, wp_81_43, wf_81_44, wv_81_44, wp_81_44, wf_81_45, wv_81_45, wf_81_46, wv_81_46, wf_81_47, wv_81_47, wf_81_48, wv_81_48, wp_81_48, wf_81_49, wv_81_49, wf_81_50, wv_81_50, wp_81_50, wi_89, wg_89, ws_89, ww_89, wl_89, wn_89, wi_91, wg_91, ws_91, ww_91, wl_91, wn_91, wi_105, wg_105, ws_105, ww_105, wl_105, wn_105, am_rt_some, am_rt_void, am_rt_none, am_rt_ite, ↓reduceIte, if_true, if_false, and_self, true_and, and_true, true_or, or_true, Bool.false_eq_true, reduceCtorEq, i9, am_u_at, am_uu, am_u_ne (show (105 : Nat) ≠ 89 by decide), ec, show am_in 5 6 = true from rfl, am_nin (show 9 + i < 14 by omega) (show (14 : Nat) < 2147483648 by omega), am_ncl (show 9 + i < 2147483648 by omega)]
      generalize hN : upd (upd (upd (upd (upd n (Int32.toNatClampNeg 1) (A 105 (9 + i))) (Int32.toNatClampNeg 2) (A 105 (Int32.toNatClampNeg 8))) (Int32.toNatClampNeg 3) fi) (Int32.toNatClampNeg 4) (nI i)) (Int32.toNatClampNeg 5) (smf (A 105) 8) = N
      have f2 : Fr [(81, 14), (81, 15), (81, 16), (81, 17)] [88, 89, 91] [] I A J I1 (am_u A1 89 N) J := f.ua (by decide)
      have h6 : ∀ j, j < 6 → am_u A1 89 N 89 j = nmv (suF (A 105) (A 82) i 8) (A 105 (9 + i)) (A 105 8) fi (nI i) (smf (A 105) 8) j := by
        intro j hj
        rw [am_u_at, ← hN]
        rcases (by omega : j = 0 ∨ j = 1 ∨ j = 2 ∨ j = 3 ∨ j = 4 ∨ j = 5) with rfl | rfl | rfl | rfl | rfl | rfl
        · exact n1
        · rfl
        · rfl
        · rfl
        · rfl
        · rfl
      refine am_T.rtI (r_grows (t_lar f2 (by decide) hL) h6 (fun j hj => by rw [f2.a 90 (by decide)]; exact h7 j hj)) ?_
      intro I2 A2 J2 f3
      have j2 : J2 = J := f3.jeq
      subst j2
      have F3 := f2.tr (f3.mo (la' := [88, 89, 91]) (by decide) (by decide) (by decide))
      have e91 : A2 91 = A1 91 := by rw [f3.a 91 (by decide), am_u_ne (show (91 : Nat) ≠ 89 by decide)]
      simp only [sX11_cook_117, sX11_cook_119, sX11_cook_121, sX11_cook_124, sX11_cook_125, sX11_cook_126, sX11_cook_128, sX11_cook_131, sX11_cook_132, sX11_cook_135, wi_91, wg_91, ws_91, ww_91, wl_91, wn_91, am_rt_some, am_rt_void, am_rt_none, am_rt_ite, ↓reduceIte, if_true, if_false, and_self, true_and, and_true, true_or, or_true, Bool.false_eq_true, reduceCtorEq, r_bound, am_nin (show i < 5 by omega) (show (5 : Nat) < 2147483648 by omega), am_ncl (show i < 2147483648 by omega), am_n1]
      refine ih (i + 1) I2 _ _ (by omega) (F3.ua (by decide)) (fun j hj => ?_)
      rw [am_u_at]
      by_cases y : j = i
      · subst y; rw [upd_at]; rfl
      · rw [upd_ne y, e91]; exact g1 j (by omega)
  simp only [eX11_cook, sX11_cook_0, sX11_cook_1]
  exact out 5 0 I A _ rfl Fr.rf (fun j hj => absurd hj (Nat.not_lt_zero j))
theorem r_begin : am_T (am_CL X (d + 1) mX11_begin [.ref 81] (am_wd I A J)) (oU fun I' A' J' => Fr [] [93] [] I A J I' A' J' ∧ ∀ j, j < 14 → A' 93 j = if j < 8 then A 92 j else 0) := by
  have key : ∀ (m k : Nat) (A1 : TI), k + m = 14 → Fr [] [93] [] I A J I A1 J → (∀ j, j < k → A1 93 j = if j < 8 then A 92 j else 0) → am_T (am_EV X d mX11_begin 2 [.ref 81, .int (nI k)] [] (am_wd I A1 J)) (oU fun I' A' J' => Fr [] [93] [] I A J I' A' J' ∧ ∀ j, j < 14 → A' 93 j = if j < 8 then A 92 j else 0) := by
    intro m
    induction m with
    | zero =>
      intro k A1 hk f g
      have k14 : k = 14 := by omega
      subst k14
      simp only [sX11_begin_2, sX11_begin_3, sX11_begin_5, sX11_begin_36, am_rt_some, am_rt_void, am_rt_none, am_rt_ite, ↓reduceIte, if_true, if_false, and_self, true_and, and_true, true_or, or_true, Bool.false_eq_true, reduceCtorEq, show (nI 14 < 14) = False by decide]
      exact am_T.ru ⟨f, g⟩
    | succ m ih =>
      intro k A1 hk f g
      have hlt : (nI k < 14) = True := by rw [am_nlit (x := 14) 14 rfl (show k < 2147483648 by omega) (by decide)]; exact eq_true (by omega)
      have l8 : (nI k < 8) = (k < 8) := am_nlit (x := 8) 8 rfl (show k < 2147483648 by omega) (by decide)
      have e92 : A1 92 = A 92 := f.a 92 (by decide)
      rw [sX11_begin_2]
      simp only [sX11_begin_3, sX11_begin_5, sX11_begin_8, sX11_begin_9, sX11_begin_12, sX11_begin_13, sX11_begin_14, sX11_begin_16, wo_81, wf_81_0, wv_81_0, wf_81_1, wv_81_1, wp_81_1, wf_81_2, wv_81_2, wp_81_2, wf_81_3, wv_81_3, wf_81_4, wv_81_4, wf_81_5, wv_81_5, wf_81_6, wv_81_6, wp_81_6, wf_81_7, wv_81_7, wp_81_7, wf_81_8, wv_81_8, wf_81_9, wv_81_9, wp_81_9, wf_81_10, wv_81_10, wf_81_11, wv_81_11, wp_81_11, wf_81_12, wv_81_12, wp_81_12, wf_81_13, wv_81_13, wf_81_14, wv_81_14, wp_81_14, wf_81_15, wv_81_15, wp_81_15, wf_81_16, wv_81_16, wp_81_16, wf_81_17, wv_81_17, wp_81_17, wf_81_18, wv_81_18, wf_81_19, wv_81_19, wf_81_20, wv_81_20, wf_81_21, wv_81_21, wf_81_22, wv_81_22, wf_81_23, wv_81_23, wf_81_24, wv_81_24, wf_81_25, wv_81_25, wf_81_26, wv_81_26, wf_81_27, wv_81_27, wf_81_28, wv_81_28, wf_81_29, wv_81_29, wf_81_30, wv_81_30, wf_81_31, wv_81_31, wf_81_32, wv_81_32, wf_81_33, wv_81_33, wp_81_33, wf_81_34, wv_81_34, wf_81_35, wv_81_35, wp_81_35, wf_81_36, wv_81_36, wf_81_37, wv_81_37, wp_81_37, wf_81_38, wv_81_38, wf_81_39, wv_81_39, wf_81_40, wv_81_40, wf_81_41, wv_81_41, wf_81_42, wv_81_42, wp_81_42, wf_81_43, wv_81_43, wp_81_43, wf_81_44, wv_81_44, wp_81_44, wf_81_45, wv_81_45, wf_81_46, wv_81_46, wf_81_47, wv_81_47, wf_81_48, wv_81_48, wp_81_48, wf_81_49, wv_81_49, wf_81_50, wv_81_50, wp_81_50, am_rt_some, am_rt_void, am_rt_none, am_rt_ite, ↓reduceIte, if_true, if_false, and_self, true_and, and_true, true_or, or_true, Bool.false_eq_true, reduceCtorEq, hlt, l8]
      by_cases q : k < 8
      · simp only [q, if_true, sX11_begin_19, sX11_begin_20, sX11_begin_23, sX11_begin_24, sX11_begin_25, sX11_begin_28, sX11_begin_29, sX11_begin_30, sX11_begin_33, wo_81, wf_81_0, wv_81_0, wf_81_1, wv_81_1, wp_81_1, wf_81_2, wv_81_2, wp_81_2, wf_81_3, wv_81_3, wf_81_4, wv_81_4, wf_81_5, wv_81_5, wf_81_6, wv_81_6, wp_81_6, wf_81_7, wv_81_7, wp_81_7, wf_81_8, wv_81_8, wf_81_9, wv_81_9, wp_81_9, wf_81_10, wv_81_10, wf_81_11, wv_81_11, wp_81_11, wf_81_12, wv_81_12, wp_81_12, wf_81_13, wv_81_13, wf_81_14, wv_81_14, wp_81_14, wf_81_15, wv_81_15, wp_81_15, wf_81_16, wv_81_16, wp_81_16, wf_81_17, wv_81_17, wp_81_17, wf_81_18, wv_81_18, wf_81_19, wv_81_19, wf_81_20, wv_81_20, wf_81_21, wv_81_21, wf_81_22, wv_81_22, wf_81_23, wv_81_23, wf_81_24, wv_81_24, wf_81_25, wv_81_25, wf_81_26, wv_81_26, wf_81_27, wv_81_27, wf_81_28, wv_81_28, wf_81_29, wv_81_29, wf_81_30, wv_81_30, wf_81_31, wv_81_31, wf_81_32, wv_81_32, wf_81_33, wv_81_33, wp_81_33, wf_81_34, wv_81_34, wf_81_35, wv_81_35, wp_81_35, wf_81_36, wv_81_36, wf_81_37, wv_81_37, wp_81_37, wf_81_38, wv_81_38, wf_81_39, wv_81_39, wf_81_40, wv_81_40, wf_81_41, wv_81_41, wf_81_42, wv_81_42, wp_81_42, wf_81_43, wv_81_43, wp_81_43, wf_81_44, wv_81_44, wp_81_44, wf_81_45, wv_81_45, wf_81_46, wv_81_46, wf_81_47, wv_81_47, wf_81_48, wv_81_48, wp_81_48, wf_81_49, wv_81_49, wf_81_50, wv_81_50, wp_81_50, wi_92, wg_92, ws_92, ww_92, wl_92, wn_92, wi_93, wg_93, ws_93, ww_93, wl_93, wn_93, am_rt_some, am_rt_void, am_rt_none, am_rt_ite, ↓reduceIte, if_true, if_false, and_self, true_and, and_true, true_or, or_true, Bool.false_eq_true, reduceCtorEq, am_nin (show k < 8 by omega) (show (8 : Nat) < 2147483648 by omega), am_nin (show k < 14 by omega) (show (14 : Nat) < 2147483648 by omega), am_ncl (show k < 2147483648 by omega), e92, am_n1]
        refine ih (k + 1) _ (by omega) (f.ua (by decide)) (fun j hj => ?_)
        rw [am_u_at]
        by_cases y : j = k
        · subst y; rw [upd_at, if_pos q]
        · rw [upd_ne y]; exact g j (by omega)
      · simp only [q, if_false, sX11_begin_28, sX11_begin_29, sX11_begin_30, sX11_begin_33, wi_93, wg_93, ws_93, ww_93, wl_93, wn_93, am_rt_some, am_rt_void, am_rt_none, am_rt_ite, ↓reduceIte, if_true, if_false, and_self, true_and, and_true, true_or, or_true, Bool.false_eq_true, reduceCtorEq, am_nin (show k < 14 by omega) (show (14 : Nat) < 2147483648 by omega), am_ncl (show k < 2147483648 by omega), am_n1]
        refine ih (k + 1) _ (by omega) (f.ua (by decide)) (fun j hj => ?_)
        rw [am_u_at]
        by_cases y : j = k
        · subst y; rw [upd_at, if_neg q]
        · rw [upd_ne y]; exact g j (by omega)
  simp only [eX11_begin, sX11_begin_0, sX11_begin_1]
  exact key 14 0 A rfl Fr.rf (fun j hj => absurd hj (Nat.not_lt_zero j))
end RC

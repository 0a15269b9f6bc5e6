/-! best: both -/
section BE
variable {X : Nat × (Nat → Int32)} {d : Nat} {I A : TI} {J : TJ} {w : am_W}
/-- the least far and its minute, the first of the like -/
def bsF (far : Nat → Int32) : Nat → Int32 × Nat
  | 0 => (far 0, 0)
  | n + 1 => if far (n + 1) < (bsF far n).1 then (far (n + 1), n + 1) else bsF far n
theorem bsF_cg {f g : Nat → Int32} : ∀ {n : Nat}, (∀ j, j ≤ n → f j = g j) → bsF f n = bsF g n
  | 0, h => by show (f 0, 0) = (g 0, 0); rw [h 0 (Nat.le_refl 0)]
  | n + 1, h => by
    unfold bsF
    rw [bsF_cg (n := n) (fun j hj => h j (by omega)), h (n + 1) (Nat.le_refl _)]
theorem bsF_le {f : Nat → Int32} : ∀ {n : Nat}, (bsF f n).2 ≤ n
  | 0 => Nat.le_refl 0
  | n + 1 => by
    unfold bsF
    by_cases q : f (n + 1) < (bsF f n).1
    · rw [if_pos q]; exact Nat.le_refl _
    · rw [if_neg q]; have := bsF_le (f := f) (n := n); omega
theorem min_if {a b : Int32} : (if b < a then b else a) = (if a < b then a else b) := by
  by_cases q : a < b
  · have : ¬ b < a := fun y => by
      rw [Int32.lt_iff_toInt_lt] at q y; omega
    rw [if_neg this, if_pos q]
  · rw [if_neg q]
    by_cases y : b < a
    · rw [if_pos y]
    · rw [if_neg y]
      rw [Int32.lt_iff_toInt_lt] at q y
      exact Int32.toInt_inj.mp (by omega)
/-- the class's pot behind n minutes -/
def clAt (G : VF) (su : Nat → Int32) (all fi : Int32) (n : Nat) (mi : Int32) (ta : Nat → Int32) : Prop := mi = nI n ∧ ∀ i, i < 5 → ta i = bhF G (su i) fi (nI i) all n
theorem r_far : am_CL X (d + 1) mX11_far [.ref 81, .ref 93] (am_wd I A J) = some (some (.int (farF (fun i => A 93 (9 + i)) (A 94) 5)), am_wd I A J) := by
  have key : ∀ (m k : Nat), k + m = 5 → am_EV X d mX11_far 4 [.ref 81, .ref 93, .int (farF (fun i => A 93 (9 + i)) (A 94) k), .int (nI k)] [] (am_wd I A J) = some (some (.int (farF (fun i => A 93 (9 + i)) (A 94) 5)), am_wd I A J) := by
    intro m
    induction m with
    | zero =>
      intro k hk
      have h8 : k = 5 := by omega
      subst h8
      simp only [sX11_far_4, sX11_far_5, sX11_far_6, sX11_far_34, sX11_far_35, am_rt_some, am_rt_void, am_rt_none, am_rt_ite, ↓reduceIte, if_true, if_false, and_self, true_and, and_true, true_or, or_true, Bool.false_eq_true, reduceCtorEq, show (nI 5 < 5) = False by decide]
    | succ m ih =>
      intro k hk
      have hlt : (nI k < 5) = True := by rw [am_nlit (x := 5) 5 rfl (show k < 2147483648 by omega) (by decide)]; exact eq_true (by omega)
      have i9 : (9 : Int32) + nI k = nI (9 + k) := i_add 9 k
      have nx := ih (k + 1) (by omega)
      rw [show farF (fun i => A 93 (9 + i)) (A 94) (k + 1) = farF (fun i => A 93 (9 + i)) (A 94) k + (if 0 ≤ A 93 (9 + k) - A 94 k then A 93 (9 + k) - A 94 k else 0 - (A 93 (9 + k) - A 94 k)) from rfl] at nx
      rw [sX11_far_4]
      simp only [sX11_far_5, sX11_far_6, sX11_far_9, sX11_far_10, sX11_far_11, sX11_far_13, sX11_far_14, sX11_far_15, sX11_far_16, sX11_far_17, sX11_far_20, sX11_far_21, sX11_far_22, sX11_far_23, sX11_far_26, sX11_far_27, sX11_far_28, sX11_far_31, wo_81, wf_81_0, wv_81_0, wf_81_1, wv_81_1, wp_81_1, wf_81_2, wv_81_2, wp_81_2, wf_81_3, wv_81_3, wf_81_4, wv_81_4, wf_81_5, wv_81_5, wf_81_6, wv_81_6, wp_81_6, wf_81_7, wv_81_7, wp_81_7, wf_81_8, wv_81_8, wf_81_9, wv_81_9, wp_81_9, wf_81_10, wv_81_10, wf_81_11, wv_81_11, wp_81_11, wf_81_12, wv_81_12, wp_81_12, wf_81_13, wv_81_13, wf_81_14, wv_81_14, wp_81_14, wf_81_15, wv_81_15, wp_81_15, wf_81_16, wv_81_16, wp_81_16, wf_81_17, wv_81_17, wp_81_17, wf_81_18, wv_81_18, wf_81_19, wv_81_19, wf_81_20, wv_81_20, wf_81_21, wv_81_21, wf_81_22, wv_81_22, wf_81_23, wv_81_23, wf_81_24, wv_81_24, wf_81_25, wv_81_25, wf_81_26, wv_81_26, wf_81_27, wv_81_27, wf_81_28, wv_81_28, wf_81_29, wv_81_29, wf_81_30, wv_81_30, wf_81_31, wv_81_31, wf_81_32, wv_81_32, wf_81_33, wv_81_33, wp_81_33, wf_81_34, wv_81_34, wf_81_35, wv_81_35, wp_81_35, wf_81_36, wv_81_36, wf_81_37, wv_81_37, wp_81_37, wf_81_38, wv_81_38, wf_81_39, wv_81_39, wf_81_40, wv_81_40, wf_81_41, wv_81_41, wf_81_42, wv_81_42, wp_81_42, wf_81_43, wv_81_43, wp_81_43, wf_81_44, wv_81_44, wp_81_44, wf_81_45, wv_81_45, wf_81_46, wv_81_46, wf_81_47, wv_81_47, wf_81_48, wv_81_48, wp_81_48, wf_81_49, wv_81_49, wf_81_50, wv_81_50, wp_81_50, wi_93, wg_93, ws_93, ww_93, wl_93, wn_93, wi_94, wg_94, ws_94, ww_94, wl_94, wn_94, am_rt_some, am_rt_void, am_rt_none, am_rt_ite, ↓reduceIte, if_true, if_false, and_self, true_and, and_true, true_or, or_true, Bool.false_eq_true, reduceCtorEq, hlt, i9, am_nin (show k < 5 by omega) (show (5 : Nat) < 2147483648 by omega), am_ncl (show k < 2147483648 by omega), am_nin (show 9 + k < 14 by omega) (show (14 : Nat) < 2147483648 by omega), am_ncl (show 9 + k < 2147483648 by omega), am_n1]
      exact nx
  simp only [eX11_far, sX11_far_0, sX11_far_1, sX11_far_2, sX11_far_3]
  exact key 5 0 rfl
theorem c_bestMinutes {G : VF} {x : Int32} (hG : cLaw G (A 8) (A 9) (A 10) (I 7 3)) (hth : ∀ j, j < 8 → in09 (A 16 j)) (hx : x = 0 ∨ x = 1) (far : Nat → Int32) (hfar : ∀ n, n ≤ 60 → far n = farF (fun i => bhF G (suF (A 16) (A 13) i 8) (I 6 2) (nI i) (smf (A 16) 8) n) (A 14) 5) : am_T (am_CL X (d + 8) mX2_bestMinutes [.ref 6, .int x] (am_wd I A J)) (oI (if x = 0 then nI (bsF far 60).2 else (bsF far 60).1) fun I' A' J' => Fr [(15, 4), (15, 2)] [11, 12, 17, 18] [] I A J I' A' J') := by
  simp only [eX2_bestMinutes, sX2_bestMinutes_0, sX2_bestMinutes_1, sX2_bestMinutes_4, sX2_bestMinutes_5, sX2_bestMinutes_8, wo_6, wf_6_0, wv_6_0, wf_6_1, wv_6_1, wf_6_2, wv_6_2, wp_6_2, wf_6_3, wv_6_3, wf_6_4, wv_6_4, wf_6_5, wv_6_5, wf_6_6, wv_6_6, wp_6_6, wo_15, wf_15_0, wv_15_0, wf_15_1, wv_15_1, wf_15_2, wv_15_2, wp_15_2, wf_15_3, wv_15_3, wf_15_4, wv_15_4, wp_15_4, am_rt_some, am_rt_void, am_rt_none, am_rt_ite, ↓reduceIte, if_true, if_false, and_self, true_and, and_true, true_or, or_true, Bool.false_eq_true, reduceCtorEq]
  refine am_T.rtU (c_weigh15 hth) ?_
  intro I1 A1 J1 ⟨f1, g1, g2⟩
  simp only [sX2_bestMinutes_11, sX2_bestMinutes_12, sX2_bestMinutes_15, sX2_bestMinutes_18, sX2_bestMinutes_19, sX2_bestMinutes_22, sX2_bestMinutes_23, sX2_bestMinutes_26, wo_6, wf_6_0, wv_6_0, wf_6_1, wv_6_1, wf_6_2, wv_6_2, wp_6_2, wf_6_3, wv_6_3, wf_6_4, wv_6_4, wf_6_5, wv_6_5, wf_6_6, wv_6_6, wp_6_6, wo_15, wf_15_0, wv_15_0, wf_15_1, wv_15_1, wf_15_2, wv_15_2, wp_15_2, wf_15_3, wv_15_3, wf_15_4, wv_15_4, wp_15_4, am_rt_some, am_rt_void, am_rt_none, am_rt_ite, ↓reduceIte, if_true, if_false, and_self, true_and, and_true, true_or, or_true, Bool.false_eq_true, reduceCtorEq, c_begin15, c_farFrom15]
  have F1 : Fr [(15, 4), (15, 2)] [11, 12, 17, 18] [] I A J I1 A1 J1 := f1.mo (by decide) (by decide) (by decide)
  have F2 : Fr [(15, 4), (15, 2)] [11, 12, 17, 18] [] I A J (am_u2 I1 15 2 0) (am_u A1 17 (am_flI 5 0 (A1 17))) J1 := (F1.ui (by decide)).ua (by decide)
  have ff : ∀ (n : Nat) (A3 : TI), n ≤ 60 → A3 14 = A 14 → (∀ i, i < 5 → A3 17 i = bhF G (suF (A 16) (A 13) i 8) (I 6 2) (nI i) (smf (A 16) 8) n) → farF (A3 17) (A3 14) 5 = far n := by
    intro n A3 hn e14 h
    rw [hfar n hn, e14]
    exact farF_cg (fun j hj => ⟨h j hj, rfl⟩)
  have key : ∀ (m n : Nat) (I3 A3 : TI) (z5 : Value), n + m = 60 → Fr [(15, 4), (15, 2)] [11, 12, 17, 18] [] I A J I3 A3 J1 → I3 15 4 = smf (A 16) 8 → I3 15 2 = nI n → (∀ i, i < 5 → A3 18 i = suF (A 16) (A 13) i 8) → (∀ i, i < 5 → A3 17 i = bhF G (suF (A 16) (A 13) i 8) (I 6 2) (nI i) (smf (A 16) 8) n) → am_T (am_EV X (d + 7) mX2_bestMinutes 35 [.ref 6, .int x, .int (bsF far n).1, .int (nI (bsF far n).2), .int (nI (n + 1)), z5] [] (am_wd I3 A3 J1)) (oI (if x = 0 then nI (bsF far 60).2 else (bsF far 60).1) fun I' A' J' => Fr [(15, 4), (15, 2)] [11, 12, 17, 18] [] I A J I' A' J') := by
    intro m
    induction m with
    | zero =>
      intro n I3 A3 z5 hn f a b c e
      have n60 : n = 60 := by omega
      subst n60
      rcases hx with rfl | rfl
      · simp only [sX2_bestMinutes_35, sX2_bestMinutes_37, sX2_bestMinutes_39, sX2_bestMinutes_88, sX2_bestMinutes_89, sX2_bestMinutes_92, sX2_bestMinutes_93, sX2_bestMinutes_96, sX2_bestMinutes_97, am_rt_some, am_rt_void, am_rt_none, am_rt_ite, ↓reduceIte, if_true, if_false, and_self, true_and, and_true, true_or, or_true, Bool.false_eq_true, reduceCtorEq, show (60 < nI (60 + 1)) = True by decide]
        exact am_T.ri f
      · simp only [sX2_bestMinutes_35, sX2_bestMinutes_37, sX2_bestMinutes_39, sX2_bestMinutes_88, sX2_bestMinutes_89, sX2_bestMinutes_92, sX2_bestMinutes_93, sX2_bestMinutes_96, sX2_bestMinutes_97, am_rt_some, am_rt_void, am_rt_none, am_rt_ite, ↓reduceIte, if_true, if_false, and_self, true_and, and_true, true_or, or_true, Bool.false_eq_true, reduceCtorEq, show (60 < nI (60 + 1)) = True by decide, show ((1 : Int32) = 0) = False by decide]
        exact am_T.ri f
    | succ m ih =>
      intro n I3 A3 z5 hn f a b c e
      have hlt : (60 < nI (n + 1)) = False := by rw [show (60 : Int32) = nI 60 from rfl, am_nlt (by decide) (show n + 1 < 2147483648 by omega)]; exact eq_false (by omega)
      rw [sX2_bestMinutes_35]
      simp only [sX2_bestMinutes_37, sX2_bestMinutes_39, sX2_bestMinutes_42, sX2_bestMinutes_43, sX2_bestMinutes_46, sX2_bestMinutes_47, sX2_bestMinutes_50, sX2_bestMinutes_51, sX2_bestMinutes_54, wo_6, wf_6_0, wv_6_0, wf_6_1, wv_6_1, wf_6_2, wv_6_2, wp_6_2, wf_6_3, wv_6_3, wf_6_4, wv_6_4, wf_6_5, wv_6_5, wf_6_6, wv_6_6, wp_6_6, wo_15, wf_15_0, wv_15_0, wf_15_1, wv_15_1, wf_15_2, wv_15_2, wp_15_2, wf_15_3, wv_15_3, wf_15_4, wv_15_4, wp_15_4, am_rt_some, am_rt_void, am_rt_none, am_rt_ite, ↓reduceIte, if_true, if_false, and_self, true_and, and_true, true_or, or_true, Bool.false_eq_true, reduceCtorEq, hlt]
      refine am_T.rtU (c_pass15 (t_lac f (by decide) hG)) ?_
      intro I4 A4 J4 ⟨f4, h1, h2⟩
      have j4 : J4 = J1 := f4.jeq
      subst j4
      have F4 := f.tr (f4.mo (li' := [(15, 4), (15, 2)]) (la' := [11, 12, 17, 18]) (by decide) (by decide) (by decide))
      have b' : I4 15 2 = nI (n + 1) := by rw [h1, b, mn99_n (by omega)]
      have e' : ∀ i, i < 5 → A4 17 i = bhF G (suF (A 16) (A 13) i 8) (I 6 2) (nI i) (smf (A 16) 8) (n + 1) := fun i hi => by
        rw [h2 i hi, c i hi, e i hi, b, a, f.i 6 2 (by decide)]; rfl
      have hf := ff (n + 1) A4 (by omega) (F4.a 14 (by decide)) e'
      have nx := ih (n + 1) I4 A4 (.int (far (n + 1))) (by omega) F4 ((f4.i 15 4 (by decide)).trans a) b' (fun i hi => by rw [f4.a 18 (by decide)]; exact c i hi) e'
      rw [show bsF far (n + 1) = if far (n + 1) < (bsF far n).1 then (far (n + 1), n + 1) else bsF far n from rfl] at nx
      simp only [sX2_bestMinutes_57, sX2_bestMinutes_58, sX2_bestMinutes_61, sX2_bestMinutes_62, sX2_bestMinutes_65, sX2_bestMinutes_68, sX2_bestMinutes_70, sX2_bestMinutes_72, sX2_bestMinutes_73, wo_6, wf_6_0, wv_6_0, wf_6_1, wv_6_1, wf_6_2, wv_6_2, wp_6_2, wf_6_3, wv_6_3, wf_6_4, wv_6_4, wf_6_5, wv_6_5, wf_6_6, wv_6_6, wp_6_6, wo_15, wf_15_0, wv_15_0, wf_15_1, wv_15_1, wf_15_2, wv_15_2, wp_15_2, wf_15_3, wv_15_3, wf_15_4, wv_15_4, wp_15_4, am_rt_some, am_rt_void, am_rt_none, am_rt_ite, ↓reduceIte, if_true, if_false, and_self, true_and, and_true, true_or, or_true, Bool.false_eq_true, reduceCtorEq, c_farFrom15, hf]
      by_cases q : far (n + 1) < (bsF far n).1
      · simp only [q, if_true] at nx ⊢
        simp only [sX2_bestMinutes_76, sX2_bestMinutes_78, sX2_bestMinutes_79, sX2_bestMinutes_81, sX2_bestMinutes_82, sX2_bestMinutes_85, am_n1]
        exact nx
      · simp only [q, if_false] at nx ⊢
        simp only [sX2_bestMinutes_82, sX2_bestMinutes_85, am_n1]
        exact nx
  simp only [sX2_bestMinutes_29, sX2_bestMinutes_30, sX2_bestMinutes_31, sX2_bestMinutes_32, sX2_bestMinutes_33]
  have h0 := ff 0 (am_u A1 17 (am_flI 5 0 (A1 17))) (by omega) (F2.a 14 (by decide)) (fun i hi => by rw [am_u_at]; unfold am_flI; rw [if_pos hi]; rfl)
  rw [h0]
  exact key 60 0 _ _ _ rfl F2 g1 (by rw [am_u2_at]; rfl) (fun i hi => g2 i hi) (fun i hi => by rw [am_u_at]; unfold am_flI; rw [if_pos hi]; rfl)
end BE

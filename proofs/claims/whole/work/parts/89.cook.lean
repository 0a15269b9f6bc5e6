/-! COOKING: the class -/
section CK
variable {X : Nat × (Nat → Int32)} {d : Nat} {I A : TI} {J : TJ} {w : am_W}
/-- what the things give a taste; and what they give it growth by -/
def suF (th st : Nat → Int32) (i : Nat) : Nat → Int32
  | 0 => 0
  | n + 1 => suF th st i n + th n * st (5 * n + i)
theorem suF_cg {th st th' st' : Nat → Int32} {i : Nat} : ∀ {n : Nat}, i < 5 → n ≤ 8 → (∀ j, j < 8 → th j = th' j) → (∀ j, j < 40 → st j = st' j) → suF th st i n = suF th' st' i n
  | 0, _, _, _, _ => rfl
  | n + 1, hi, hn, h1, h2 => by
    show suF th st i n + th n * st (5 * n + i) = suF th' st' i n + th' n * st' (5 * n + i)
    rw [suF_cg (n := n) hi (by omega) h1 h2, h1 n (by omega), h2 (5 * n + i) (by omega)]
def mn99 (m : Int32) : Int32 := if m + 1 < 99 then m + 1 else 99
/-- a minute of a taste -/
def tkF (G : VF) (th st : Nat → Int32) (mi fi : Int32) (ta : Nat → Int32) (i : Nat) : Int32 := gT G (suF th st i 8) (ta i) mi fi (nI i) (smf th 8)
theorem tkF_cg {G : VF} {th st th' st' ta ta' : Nat → Int32} {mi fi : Int32} {i : Nat} (hi : i < 5) (h1 : ∀ j, j < 8 → th j = th' j) (h2 : ∀ j, j < 40 → st j = st' j) (h3 : ta i = ta' i) : tkF G th st mi fi ta i = tkF G th' st' mi fi ta' i := by
  unfold tkF
  rw [suF_cg hi (Nat.le_refl 8) h1 h2, smf_cg h1, h3]
def farF (a b : Nat → Int32) : Nat → Int32
  | 0 => 0
  | n + 1 => farF a b n + ab (a n - b n)
theorem farF_cg {a b a' b' : Nat → Int32} : ∀ {n : Nat}, (∀ j, j < n → a j = a' j ∧ b j = b' j) → farF a b n = farF a' b' n
  | 0, _ => rfl
  | n + 1, h => by
    show farF a b n + ab (a n - b n) = farF a' b' n + ab (a' n - b' n)
    rw [farF_cg (n := n) (fun j hj => h j (by omega)), (h n (by omega)).1, (h n (by omega)).2]
theorem in09_pos {x : Int32} (h : in09 x) (g : ¬ 0 < x) : x = 0 := by
  obtain ⟨a, ha, rfl⟩ := in09_of h
  rcases Nat.eq_zero_or_pos a with e | e
  · rw [e]; rfl
  · exact absurd (nI_lt (a := 0) e (by omega)) g
theorem c_weigh15 (hth : ∀ j, j < 8 → in09 (A 16 j)) : am_T (am_CL X (d + 2) mX6_weigh [.ref 15, .ref 13] (am_wd I A J)) (oU fun I' A' J' => Fr [(15, 4)] [18] [] I A J I' A' J' ∧ I' 15 4 = smf (A 16) 8 ∧ ∀ i, i < 5 → A' 18 i = suF (A 16) (A 13) i 8) := by
  have key : ∀ (m k : Nat) (I1 A1 : TI) (z3 z4 : Value), k + m = 8 → Fr [(15, 4)] [18] [] I A J I1 A1 J → I1 15 4 = smf (A 16) k → (∀ i, i < 5 → A1 18 i = suF (A 16) (A 13) i k) → am_T (am_EV X (d + 1) mX6_weigh 15 [.ref 15, .ref 13, .int (nI k), z3, z4] [] (am_wd I1 A1 J)) (oU fun I' A' J' => Fr [(15, 4)] [18] [] I A J I' A' J' ∧ I' 15 4 = smf (A 16) 8 ∧ ∀ i, i < 5 → A' 18 i = suF (A 16) (A 13) i 8) := by
    intro m
    induction m with
    | zero =>
      intro k I1 A1 z3 z4 hk f g1 g2
      have h8 : k = 8 := by omega
      subst h8
      simp only [sX6_weigh_15, sX6_weigh_16, sX6_weigh_18, sX6_weigh_83, am_rt_some, am_rt_void, am_rt_none, am_rt_ite, ↓reduceIte, if_true, if_false, and_self, true_and, and_true, true_or, or_true, Bool.false_eq_true, reduceCtorEq, show (nI 8 < 8) = False by decide]
      exact am_T.ru ⟨f, g1, g2⟩
    | succ m ih =>
      intro k I1 A1 z3 z4 hk f g1 g2
      have hlt : (nI k < 8) = True := by rw [am_nlit (x := 8) 8 rfl (show k < 2147483648 by omega) (by decide)]; exact eq_true (by omega)
      have e1 : A1 16 = A 16 := f.a 16 (by decide)
      have e13 : A1 13 = A 13 := f.a 13 (by decide)
      rw [sX6_weigh_15]
      simp only [sX6_weigh_16, sX6_weigh_18, sX6_weigh_21, sX6_weigh_22, sX6_weigh_25, sX6_weigh_26, sX6_weigh_27, sX6_weigh_28, sX6_weigh_29, wo_15, wf_15_0, wv_15_0, wf_15_1, wv_15_1, wf_15_2, wv_15_2, wp_15_2, wf_15_3, wv_15_3, wf_15_4, wv_15_4, wp_15_4, wi_16, wg_16, ws_16, ww_16, wl_16, wn_16, am_rt_some, am_rt_void, am_rt_none, am_rt_ite, ↓reduceIte, if_true, if_false, and_self, true_and, and_true, true_or, or_true, Bool.false_eq_true, reduceCtorEq, hlt, am_nin (show k < 8 by omega) (show (8 : Nat) < 2147483648 by omega), am_ncl (show k < 2147483648 by omega), e1]
      by_cases q : 0 < A 16 k
      · simp only [q, if_true, sX6_weigh_32, sX6_weigh_33, sX6_weigh_33_r, sX6_weigh_34, sX6_weigh_37, sX6_weigh_38, sX6_weigh_39, sX6_weigh_42, sX6_weigh_43, wo_15, wf_15_0, wv_15_0, wf_15_1, wv_15_1, wf_15_2, wv_15_2, wp_15_2, wf_15_3, wv_15_3, wf_15_4, wv_15_4, wp_15_4, am_rt_some, am_rt_void, am_rt_none, am_rt_ite, ↓reduceIte, if_true, if_false, and_self, true_and, and_true, true_or, or_true, Bool.false_eq_true, reduceCtorEq]
        -- a thing's five tastes
        have lt : ∀ (n i : Nat) (A2 : TI), i + n = 5 → Fr [(15, 4)] [18] [] I A J (am_u2 I1 15 4 (I1 15 4 + A 16 k)) A2 J → (∀ j, j < 5 → A2 18 j = if j < i then suF (A 16) (A 13) j (k + 1) else suF (A 16) (A 13) j k) → am_T (am_EV X (d + 1) mX6_weigh 45 [.ref 15, .ref 13, .int (nI k), .int (A 16 k), .int (nI i)] [] (am_wd (am_u2 I1 15 4 (I1 15 4 + A 16 k)) A2 J)) (oU fun I' A' J' => Fr [(15, 4)] [18] [] I A J I' A' J' ∧ I' 15 4 = smf (A 16) 8 ∧ ∀ i, i < 5 → A' 18 i = suF (A 16) (A 13) i 8) := by
          intro n
          induction n with
          | zero =>
            intro i A2 hi f2 g3
            have i5 : i = 5 := by omega
            subst i5
            simp only [sX6_weigh_45, sX6_weigh_47, sX6_weigh_48, sX6_weigh_77, sX6_weigh_80, am_rt_some, am_rt_void, am_rt_none, am_rt_ite, ↓reduceIte, if_true, if_false, and_self, true_and, and_true, true_or, or_true, Bool.false_eq_true, reduceCtorEq, show (nI 5 < 5) = False by decide, am_n1]
            refine ih (k + 1) _ A2 _ _ (by omega) f2 ?_ (fun j hj => by rw [g3 j hj, if_pos hj])
            rw [am_u2_at, g1]; rfl
          | succ n ihn =>
            intro i A2 hi f2 g3
            have hl5 : (nI i < 5) = True := by rw [am_nlit (x := 5) 5 rfl (show i < 2147483648 by omega) (by decide)]; exact eq_true (by omega)
            have e13 : A2 13 = A 13 := f2.a 13 (by decide)
            have es : A2 18 i = suF (A 16) (A 13) i k := by rw [g3 i (by omega), if_neg (Nat.lt_irrefl i)]
            have nx := ihn (i + 1) (am_u A2 18 (upd (A2 18) i (suF (A 16) (A 13) i k + A 16 k * A 13 (5 * k + i)))) (by omega) (f2.ua (by decide)) (fun j hj => by
              rw [am_u_at]
              by_cases y : j = i
              · subst y
                rw [upd_at, if_pos (by omega)]; rfl
              · rw [upd_ne y, g3 j hj]
                by_cases y2 : j < i
                · rw [if_pos y2, if_pos (by omega)]
                · rw [if_neg y2, if_neg (by omega)])
            rw [sX6_weigh_45]
            simp only [sX6_weigh_47, sX6_weigh_48, sX6_weigh_51, sX6_weigh_52, sX6_weigh_55, sX6_weigh_57, sX6_weigh_58, sX6_weigh_59, sX6_weigh_60, sX6_weigh_61, sX6_weigh_62, sX6_weigh_64, sX6_weigh_67, sX6_weigh_68, sX6_weigh_69, sX6_weigh_70, sX6_weigh_71, sX6_weigh_74, wo_15, wf_15_0, wv_15_0, wf_15_1, wv_15_1, wf_15_2, wv_15_2, wp_15_2, wf_15_3, wv_15_3, wf_15_4, wv_15_4, wp_15_4, wi_18, wg_18, ws_18, ww_18, wl_18, wn_18, wi_13, wg_13, ws_13, ww_13, wl_13, wn_13, am_rt_some, am_rt_void, am_rt_none, am_rt_ite, ↓reduceIte, if_true, if_false, and_self, true_and, and_true, true_or, or_true, Bool.false_eq_true, reduceCtorEq, hl5, c_strengthAt, i55, am_nin (show i < 5 by omega) (show (5 : Nat) < 2147483648 by omega), am_ncl (show i < 2147483648 by omega), am_nin (show 5 * k + i < 40 by omega) (show (40 : Nat) < 2147483648 by omega), am_ncl (show 5 * k + i < 2147483648 by omega), e13, es, am_n1]
            exact nx
        exact lt 5 0 A1 rfl (f.ui (by decide)) (fun j hj => by rw [if_neg (Nat.not_lt_zero j)]; exact g2 j hj)
      · have z := in09_pos (hth k (by omega)) q
        simp only [q, if_false, sX6_weigh_77, sX6_weigh_80, am_n1]
        refine ih (k + 1) I1 A1 _ _ (by omega) f ?_ (fun j hj => ?_)
        · rw [g1]
          show smf (A 16) k = smf (A 16) k + A 16 k
          rw [z, Int32.add_zero]
        · rw [g2 j hj]
          show suF (A 16) (A 13) j k = suF (A 16) (A 13) j k + A 16 k * A 13 (5 * k + j)
          rw [z, Int32.zero_mul, Int32.add_zero]
  simp only [eX6_weigh, sX6_weigh_0, sX6_weigh_1, sX6_weigh_4, sX6_weigh_5, wo_15, wf_15_0, wv_15_0, wf_15_1, wv_15_1, wf_15_2, wv_15_2, wp_15_2, wf_15_3, wv_15_3, wf_15_4, wv_15_4, wp_15_4, am_rt_some, am_rt_void, am_rt_none, am_rt_ite, ↓reduceIte, if_true, if_false, and_self, true_and, and_true, true_or, or_true, Bool.false_eq_true, reduceCtorEq]
  rw [c_fillI (n := 5) (by decide) (wr_18)]
  simp only [am_rt_some, am_rt_void, am_rt_none, am_rt_ite, ↓reduceIte, if_true, if_false, and_self, true_and, and_true, true_or, or_true, Bool.false_eq_true, reduceCtorEq, sX6_weigh_8, sX6_weigh_9, sX6_weigh_10, sX6_weigh_13, sX6_weigh_14, wo_15, wf_15_0, wv_15_0, wf_15_1, wv_15_1, wf_15_2, wv_15_2, wp_15_2, wf_15_3, wv_15_3, wf_15_4, wv_15_4, wp_15_4, wi_18, wg_18, ws_18, ww_18, wl_18, wn_18]
  exact key 8 0 _ _ _ _ rfl ((Fr.rf.ua (by decide)).ui (by decide)) (by rw [am_u2_at]; rfl) (fun i hi => by rw [am_u_at]; unfold am_flI; rw [if_pos hi]; rfl)
theorem c_weigh24 (hth : ∀ j, j < 8 → in09 (A 25 j)) : am_T (am_CL X (d + 2) mX6_weigh [.ref 24, .ref 13] (am_wd I A J)) (oU fun I' A' J' => Fr [(24, 4)] [27] [] I A J I' A' J' ∧ I' 24 4 = smf (A 25) 8 ∧ ∀ i, i < 5 → A' 27 i = suF (A 25) (A 13) i 8) := by
  have key : ∀ (m k : Nat) (I1 A1 : TI) (z3 z4 : Value), k + m = 8 → Fr [(24, 4)] [27] [] I A J I1 A1 J → I1 24 4 = smf (A 25) k → (∀ i, i < 5 → A1 27 i = suF (A 25) (A 13) i k) → am_T (am_EV X (d + 1) mX6_weigh 15 [.ref 24, .ref 13, .int (nI k), z3, z4] [] (am_wd I1 A1 J)) (oU fun I' A' J' => Fr [(24, 4)] [27] [] I A J I' A' J' ∧ I' 24 4 = smf (A 25) 8 ∧ ∀ i, i < 5 → A' 27 i = suF (A 25) (A 13) i 8) := by
    intro m
    induction m with
    | zero =>
      intro k I1 A1 z3 z4 hk f g1 g2
      have h8 : k = 8 := by omega
      subst h8
      simp only [sX6_weigh_15, sX6_weigh_16, sX6_weigh_18, sX6_weigh_83, am_rt_some, am_rt_void, am_rt_none, am_rt_ite, ↓reduceIte, if_true, if_false, and_self, true_and, and_true, true_or, or_true, Bool.false_eq_true, reduceCtorEq, show (nI 8 < 8) = False by decide]
      exact am_T.ru ⟨f, g1, g2⟩
    | succ m ih =>
      intro k I1 A1 z3 z4 hk f g1 g2
      have hlt : (nI k < 8) = True := by rw [am_nlit (x := 8) 8 rfl (show k < 2147483648 by omega) (by decide)]; exact eq_true (by omega)
      have e1 : A1 25 = A 25 := f.a 25 (by decide)
      have e13 : A1 13 = A 13 := f.a 13 (by decide)
      rw [sX6_weigh_15]
      simp only [sX6_weigh_16, sX6_weigh_18, sX6_weigh_21, sX6_weigh_22, sX6_weigh_25, sX6_weigh_26, sX6_weigh_27, sX6_weigh_28, sX6_weigh_29, wo_24, wf_24_0, wv_24_0, wf_24_1, wv_24_1, wf_24_2, wv_24_2, wp_24_2, wf_24_3, wv_24_3, wf_24_4, wv_24_4, wp_24_4, wi_25, wg_25, ws_25, ww_25, wl_25, wn_25, am_rt_some, am_rt_void, am_rt_none, am_rt_ite, ↓reduceIte, if_true, if_false, and_self, true_and, and_true, true_or, or_true, Bool.false_eq_true, reduceCtorEq, hlt, am_nin (show k < 8 by omega) (show (8 : Nat) < 2147483648 by omega), am_ncl (show k < 2147483648 by omega), e1]
      by_cases q : 0 < A 25 k
      · simp only [q, if_true, sX6_weigh_32, sX6_weigh_33, sX6_weigh_33_r, sX6_weigh_34, sX6_weigh_37, sX6_weigh_38, sX6_weigh_39, sX6_weigh_42, sX6_weigh_43, wo_24, wf_24_0, wv_24_0, wf_24_1, wv_24_1, wf_24_2, wv_24_2, wp_24_2, wf_24_3, wv_24_3, wf_24_4, wv_24_4, wp_24_4, am_rt_some, am_rt_void, am_rt_none, am_rt_ite, ↓reduceIte, if_true, if_false, and_self, true_and, and_true, true_or, or_true, Bool.false_eq_true, reduceCtorEq]
        -- a thing's five tastes
        have lt : ∀ (n i : Nat) (A2 : TI), i + n = 5 → Fr [(24, 4)] [27] [] I A J (am_u2 I1 24 4 (I1 24 4 + A 25 k)) A2 J → (∀ j, j < 5 → A2 27 j = if j < i then suF (A 25) (A 13) j (k + 1) else suF (A 25) (A 13) j k) → am_T (am_EV X (d + 1) mX6_weigh 45 [.ref 24, .ref 13, .int (nI k), .int (A 25 k), .int (nI i)] [] (am_wd (am_u2 I1 24 4 (I1 24 4 + A 25 k)) A2 J)) (oU fun I' A' J' => Fr [(24, 4)] [27] [] I A J I' A' J' ∧ I' 24 4 = smf (A 25) 8 ∧ ∀ i, i < 5 → A' 27 i = suF (A 25) (A 13) i 8) := by
          intro n
          induction n with
          | zero =>
            intro i A2 hi f2 g3
            have i5 : i = 5 := by omega
            subst i5
            simp only [sX6_weigh_45, sX6_weigh_47, sX6_weigh_48, sX6_weigh_77, sX6_weigh_80, am_rt_some, am_rt_void, am_rt_none, am_rt_ite, ↓reduceIte, if_true, if_false, and_self, true_and, and_true, true_or, or_true, Bool.false_eq_true, reduceCtorEq, show (nI 5 < 5) = False by decide, am_n1]
            refine ih (k + 1) _ A2 _ _ (by omega) f2 ?_ (fun j hj => by rw [g3 j hj, if_pos hj])
            rw [am_u2_at, g1]; rfl
          | succ n ihn =>
            intro i A2 hi f2 g3
            have hl5 : (nI i < 5) = True := by rw [am_nlit (x := 5) 5 rfl (show i < 2147483648 by omega) (by decide)]; exact eq_true (by omega)
            have e13 : A2 13 = A 13 := f2.a 13 (by decide)
            have es : A2 27 i = suF (A 25) (A 13) i k := by rw [g3 i (by omega), if_neg (Nat.lt_irrefl i)]
            have nx := ihn (i + 1) (am_u A2 27 (upd (A2 27) i (suF (A 25) (A 13) i k + A 25 k * A 13 (5 * k + i)))) (by omega) (f2.ua (by decide)) (fun j hj => by
              rw [am_u_at]
              by_cases y : j = i
              · subst y
                rw [upd_at, if_pos (by omega)]; rfl
              · rw [upd_ne y, g3 j hj]
                by_cases y2 : j < i
                · rw [if_pos y2, if_pos (by omega)]
                · rw [if_neg y2, if_neg (by omega)])
            rw [sX6_weigh_45]
            simp only [sX6_weigh_47, sX6_weigh_48, sX6_weigh_51, sX6_weigh_52, sX6_weigh_55, sX6_weigh_57, sX6_weigh_58, sX6_weigh_59, sX6_weigh_60, sX6_weigh_61, sX6_weigh_62, sX6_weigh_64, sX6_weigh_67, sX6_weigh_68, sX6_weigh_69, sX6_weigh_70, sX6_weigh_71, sX6_weigh_74, wo_24, wf_24_0, wv_24_0, wf_24_1, wv_24_1, wf_24_2, wv_24_2, wp_24_2, wf_24_3, wv_24_3, wf_24_4, wv_24_4, wp_24_4, wi_27, wg_27, ws_27, ww_27, wl_27, wn_27, wi_13, wg_13, ws_13, ww_13, wl_13, wn_13, am_rt_some, am_rt_void, am_rt_none, am_rt_ite, ↓reduceIte, if_true, if_false, and_self, true_and, and_true, true_or, or_true, Bool.false_eq_true, reduceCtorEq, hl5, c_strengthAt, i55, am_nin (show i < 5 by omega) (show (5 : Nat) < 2147483648 by omega), am_ncl (show i < 2147483648 by omega), am_nin (show 5 * k + i < 40 by omega) (show (40 : Nat) < 2147483648 by omega), am_ncl (show 5 * k + i < 2147483648 by omega), e13, es, am_n1]
            exact nx
        exact lt 5 0 A1 rfl (f.ui (by decide)) (fun j hj => by rw [if_neg (Nat.not_lt_zero j)]; exact g2 j hj)
      · have z := in09_pos (hth k (by omega)) q
        simp only [q, if_false, sX6_weigh_77, sX6_weigh_80, am_n1]
        refine ih (k + 1) I1 A1 _ _ (by omega) f ?_ (fun j hj => ?_)
        · rw [g1]
          show smf (A 25) k = smf (A 25) k + A 25 k
          rw [z, Int32.add_zero]
        · rw [g2 j hj]
          show suF (A 25) (A 13) j k = suF (A 25) (A 13) j k + A 25 k * A 13 (5 * k + j)
          rw [z, Int32.zero_mul, Int32.add_zero]
  simp only [eX6_weigh, sX6_weigh_0, sX6_weigh_1, sX6_weigh_4, sX6_weigh_5, wo_24, wf_24_0, wv_24_0, wf_24_1, wv_24_1, wf_24_2, wv_24_2, wp_24_2, wf_24_3, wv_24_3, wf_24_4, wv_24_4, wp_24_4, am_rt_some, am_rt_void, am_rt_none, am_rt_ite, ↓reduceIte, if_true, if_false, and_self, true_and, and_true, true_or, or_true, Bool.false_eq_true, reduceCtorEq]
  rw [c_fillI (n := 5) (by decide) (wr_27)]
  simp only [am_rt_some, am_rt_void, am_rt_none, am_rt_ite, ↓reduceIte, if_true, if_false, and_self, true_and, and_true, true_or, or_true, Bool.false_eq_true, reduceCtorEq, sX6_weigh_8, sX6_weigh_9, sX6_weigh_10, sX6_weigh_13, sX6_weigh_14, wo_24, wf_24_0, wv_24_0, wf_24_1, wv_24_1, wf_24_2, wv_24_2, wp_24_2, wf_24_3, wv_24_3, wf_24_4, wv_24_4, wp_24_4, wi_27, wg_27, ws_27, ww_27, wl_27, wn_27]
  exact key 8 0 _ _ _ _ rfl ((Fr.rf.ua (by decide)).ui (by decide)) (by rw [am_u2_at]; rfl) (fun i hi => by rw [am_u_at]; unfold am_flI; rw [if_pos hi]; rfl)
theorem c_weigh28 (hth : ∀ j, j < 8 → in09 (A 29 j)) : am_T (am_CL X (d + 2) mX6_weigh [.ref 28, .ref 13] (am_wd I A J)) (oU fun I' A' J' => Fr [(28, 4)] [31] [] I A J I' A' J' ∧ I' 28 4 = smf (A 29) 8 ∧ ∀ i, i < 5 → A' 31 i = suF (A 29) (A 13) i 8) := by
  have key : ∀ (m k : Nat) (I1 A1 : TI) (z3 z4 : Value), k + m = 8 → Fr [(28, 4)] [31] [] I A J I1 A1 J → I1 28 4 = smf (A 29) k → (∀ i, i < 5 → A1 31 i = suF (A 29) (A 13) i k) → am_T (am_EV X (d + 1) mX6_weigh 15 [.ref 28, .ref 13, .int (nI k), z3, z4] [] (am_wd I1 A1 J)) (oU fun I' A' J' => Fr [(28, 4)] [31] [] I A J I' A' J' ∧ I' 28 4 = smf (A 29) 8 ∧ ∀ i, i < 5 → A' 31 i = suF (A 29) (A 13) i 8) := by
    intro m
    induction m with
    | zero =>
      intro k I1 A1 z3 z4 hk f g1 g2
      have h8 : k = 8 := by omega
      subst h8
      simp only [sX6_weigh_15, sX6_weigh_16, sX6_weigh_18, sX6_weigh_83, am_rt_some, am_rt_void, am_rt_none, am_rt_ite, ↓reduceIte, if_true, if_false, and_self, true_and, and_true, true_or, or_true, Bool.false_eq_true, reduceCtorEq, show (nI 8 < 8) = False by decide]
      exact am_T.ru ⟨f, g1, g2⟩
    | succ m ih =>
      intro k I1 A1 z3 z4 hk f g1 g2
      have hlt : (nI k < 8) = True := by rw [am_nlit (x := 8) 8 rfl (show k < 2147483648 by omega) (by decide)]; exact eq_true (by omega)
      have e1 : A1 29 = A 29 := f.a 29 (by decide)
      have e13 : A1 13 = A 13 := f.a 13 (by decide)
      rw [sX6_weigh_15]
      simp only [sX6_weigh_16, sX6_weigh_18, sX6_weigh_21, sX6_weigh_22, sX6_weigh_25, sX6_weigh_26, sX6_weigh_27, sX6_weigh_28, sX6_weigh_29, wo_28, wf_28_0, wv_28_0, wf_28_1, wv_28_1, wf_28_2, wv_28_2, wp_28_2, wf_28_3, wv_28_3, wf_28_4, wv_28_4, wp_28_4, wi_29, wg_29, ws_29, ww_29, wl_29, wn_29, am_rt_some, am_rt_void, am_rt_none, am_rt_ite, ↓reduceIte, if_true, if_false, and_self, true_and, and_true, true_or, or_true, Bool.false_eq_true, reduceCtorEq, hlt, am_nin (show k < 8 by omega) (show (8 : Nat) < 2147483648 by omega), am_ncl (show k < 2147483648 by omega), e1]
      by_cases q : 0 < A 29 k
      · simp only [q, if_true, sX6_weigh_32, sX6_weigh_33, sX6_weigh_33_r, sX6_weigh_34, sX6_weigh_37, sX6_weigh_38, sX6_weigh_39, sX6_weigh_42, sX6_weigh_43, wo_28, wf_28_0, wv_28_0, wf_28_1, wv_28_1, wf_28_2, wv_28_2, wp_28_2, wf_28_3, wv_28_3, wf_28_4, wv_28_4, wp_28_4, am_rt_some, am_rt_void, am_rt_none, am_rt_ite, ↓reduceIte, if_true, if_false, and_self, true_and, and_true, true_or, or_true, Bool.false_eq_true, reduceCtorEq]
        -- a thing's five tastes
        have lt : ∀ (n i : Nat) (A2 : TI), i + n = 5 → Fr [(28, 4)] [31] [] I A J (am_u2 I1 28 4 (I1 28 4 + A 29 k)) A2 J → (∀ j, j < 5 → A2 31 j = if j < i then suF (A 29) (A 13) j (k + 1) else suF (A 29) (A 13) j k) → am_T (am_EV X (d + 1) mX6_weigh 45 [.ref 28, .ref 13, .int (nI k), .int (A 29 k), .int (nI i)] [] (am_wd (am_u2 I1 28 4 (I1 28 4 + A 29 k)) A2 J)) (oU fun I' A' J' => Fr [(28, 4)] [31] [] I A J I' A' J' ∧ I' 28 4 = smf (A 29) 8 ∧ ∀ i, i < 5 → A' 31 i = suF (A 29) (A 13) i 8) := by
          intro n
          induction n with
          | zero =>
            intro i A2 hi f2 g3
            have i5 : i = 5 := by omega
            subst i5
            simp only [sX6_weigh_45, sX6_weigh_47, sX6_weigh_48, sX6_weigh_77, sX6_weigh_80, am_rt_some, am_rt_void, am_rt_none, am_rt_ite, ↓reduceIte, if_true, if_false, and_self, true_and, and_true, true_or, or_true, Bool.false_eq_true, reduceCtorEq, show (nI 5 < 5) = False by decide, am_n1]
            refine ih (k + 1) _ A2 _ _ (by omega) f2 ?_ (fun j hj => by rw [g3 j hj, if_pos hj])
            rw [am_u2_at, g1]; rfl
          | succ n ihn =>
            intro i A2 hi f2 g3
            have hl5 : (nI i < 5) = True := by rw [am_nlit (x := 5) 5 rfl (show i < 2147483648 by omega) (by decide)]; exact eq_true (by omega)
            have e13 : A2 13 = A 13 := f2.a 13 (by decide)
            have es : A2 31 i = suF (A 29) (A 13) i k := by rw [g3 i (by omega), if_neg (Nat.lt_irrefl i)]
            have nx := ihn (i + 1) (am_u A2 31 (upd (A2 31) i (suF (A 29) (A 13) i k + A 29 k * A 13 (5 * k + i)))) (by omega) (f2.ua (by decide)) (fun j hj => by
              rw [am_u_at]
              by_cases y : j = i
              · subst y
                rw [upd_at, if_pos (by omega)]; rfl
              · rw [upd_ne y, g3 j hj]
                by_cases y2 : j < i
                · rw [if_pos y2, if_pos (by omega)]
                · rw [if_neg y2, if_neg (by omega)])
            rw [sX6_weigh_45]
            simp only [sX6_weigh_47, sX6_weigh_48, sX6_weigh_51, sX6_weigh_52, sX6_weigh_55, sX6_weigh_57, sX6_weigh_58, sX6_weigh_59, sX6_weigh_60, sX6_weigh_61, sX6_weigh_62, sX6_weigh_64, sX6_weigh_67, sX6_weigh_68, sX6_weigh_69, sX6_weigh_70, sX6_weigh_71, sX6_weigh_74, wo_28, wf_28_0, wv_28_0, wf_28_1, wv_28_1, wf_28_2, wv_28_2, wp_28_2, wf_28_3, wv_28_3, wf_28_4, wv_28_4, wp_28_4, wi_31, wg_31, ws_31, ww_31, wl_31, wn_31, wi_13, wg_13, ws_13, ww_13, wl_13, wn_13, am_rt_some, am_rt_void, am_rt_none, am_rt_ite, ↓reduceIte, if_true, if_false, and_self, true_and, and_true, true_or, or_true, Bool.false_eq_true, reduceCtorEq, hl5, c_strengthAt, i55, am_nin (show i < 5 by omega) (show (5 : Nat) < 2147483648 by omega), am_ncl (show i < 2147483648 by omega), am_nin (show 5 * k + i < 40 by omega) (show (40 : Nat) < 2147483648 by omega), am_ncl (show 5 * k + i < 2147483648 by omega), e13, es, am_n1]
            exact nx
        exact lt 5 0 A1 rfl (f.ui (by decide)) (fun j hj => by rw [if_neg (Nat.not_lt_zero j)]; exact g2 j hj)
      · have z := in09_pos (hth k (by omega)) q
        simp only [q, if_false, sX6_weigh_77, sX6_weigh_80, am_n1]
        refine ih (k + 1) I1 A1 _ _ (by omega) f ?_ (fun j hj => ?_)
        · rw [g1]
          show smf (A 29) k = smf (A 29) k + A 29 k
          rw [z, Int32.add_zero]
        · rw [g2 j hj]
          show suF (A 29) (A 13) j k = suF (A 29) (A 13) j k + A 29 k * A 13 (5 * k + j)
          rw [z, Int32.zero_mul, Int32.add_zero]
  simp only [eX6_weigh, sX6_weigh_0, sX6_weigh_1, sX6_weigh_4, sX6_weigh_5, wo_28, wf_28_0, wv_28_0, wf_28_1, wv_28_1, wf_28_2, wv_28_2, wp_28_2, wf_28_3, wv_28_3, wf_28_4, wv_28_4, wp_28_4, am_rt_some, am_rt_void, am_rt_none, am_rt_ite, ↓reduceIte, if_true, if_false, and_self, true_and, and_true, true_or, or_true, Bool.false_eq_true, reduceCtorEq]
  rw [c_fillI (n := 5) (by decide) (wr_31)]
  simp only [am_rt_some, am_rt_void, am_rt_none, am_rt_ite, ↓reduceIte, if_true, if_false, and_self, true_and, and_true, true_or, or_true, Bool.false_eq_true, reduceCtorEq, sX6_weigh_8, sX6_weigh_9, sX6_weigh_10, sX6_weigh_13, sX6_weigh_14, wo_28, wf_28_0, wv_28_0, wf_28_1, wv_28_1, wf_28_2, wv_28_2, wp_28_2, wf_28_3, wv_28_3, wf_28_4, wv_28_4, wp_28_4, wi_31, wg_31, ws_31, ww_31, wl_31, wn_31]
  exact key 8 0 _ _ _ _ rfl ((Fr.rf.ua (by decide)).ui (by decide)) (by rw [am_u2_at]; rfl) (fun i hi => by rw [am_u_at]; unfold am_flI; rw [if_pos hi]; rfl)
theorem c_weigh32 (hth : ∀ j, j < 8 → in09 (A 33 j)) : am_T (am_CL X (d + 2) mX6_weigh [.ref 32, .ref 13] (am_wd I A J)) (oU fun I' A' J' => Fr [(32, 4)] [35] [] I A J I' A' J' ∧ I' 32 4 = smf (A 33) 8 ∧ ∀ i, i < 5 → A' 35 i = suF (A 33) (A 13) i 8) := by
  have key : ∀ (m k : Nat) (I1 A1 : TI) (z3 z4 : Value), k + m = 8 → Fr [(32, 4)] [35] [] I A J I1 A1 J → I1 32 4 = smf (A 33) k → (∀ i, i < 5 → A1 35 i = suF (A 33) (A 13) i k) → am_T (am_EV X (d + 1) mX6_weigh 15 [.ref 32, .ref 13, .int (nI k), z3, z4] [] (am_wd I1 A1 J)) (oU fun I' A' J' => Fr [(32, 4)] [35] [] I A J I' A' J' ∧ I' 32 4 = smf (A 33) 8 ∧ ∀ i, i < 5 → A' 35 i = suF (A 33) (A 13) i 8) := by
    intro m
    induction m with
    | zero =>
      intro k I1 A1 z3 z4 hk f g1 g2
      have h8 : k = 8 := by omega
      subst h8
      simp only [sX6_weigh_15, sX6_weigh_16, sX6_weigh_18, sX6_weigh_83, am_rt_some, am_rt_void, am_rt_none, am_rt_ite, ↓reduceIte, if_true, if_false, and_self, true_and, and_true, true_or, or_true, Bool.false_eq_true, reduceCtorEq, show (nI 8 < 8) = False by decide]
      exact am_T.ru ⟨f, g1, g2⟩
    | succ m ih =>
      intro k I1 A1 z3 z4 hk f g1 g2
      have hlt : (nI k < 8) = True := by rw [am_nlit (x := 8) 8 rfl (show k < 2147483648 by omega) (by decide)]; exact eq_true (by omega)
      have e1 : A1 33 = A 33 := f.a 33 (by decide)
      have e13 : A1 13 = A 13 := f.a 13 (by decide)
      rw [sX6_weigh_15]
      simp only [sX6_weigh_16, sX6_weigh_18, sX6_weigh_21, sX6_weigh_22, sX6_weigh_25, sX6_weigh_26, sX6_weigh_27, sX6_weigh_28, sX6_weigh_29, wo_32, wf_32_0, wv_32_0, wf_32_1, wv_32_1, wf_32_2, wv_32_2, wp_32_2, wf_32_3, wv_32_3, wf_32_4, wv_32_4, wp_32_4, wi_33, wg_33, ws_33, ww_33, wl_33, wn_33, am_rt_some, am_rt_void, am_rt_none, am_rt_ite, ↓reduceIte, if_true, if_false, and_self, true_and, and_true, true_or, or_true, Bool.false_eq_true, reduceCtorEq, hlt, am_nin (show k < 8 by omega) (show (8 : Nat) < 2147483648 by omega), am_ncl (show k < 2147483648 by omega), e1]
      by_cases q : 0 < A 33 k
      · simp only [q, if_true, sX6_weigh_32, sX6_weigh_33, sX6_weigh_33_r, sX6_weigh_34, sX6_weigh_37, sX6_weigh_38, sX6_weigh_39, sX6_weigh_42, sX6_weigh_43, wo_32, wf_32_0, wv_32_0, wf_32_1, wv_32_1, wf_32_2, wv_32_2, wp_32_2, wf_32_3, wv_32_3, wf_32_4, wv_32_4, wp_32_4, am_rt_some, am_rt_void, am_rt_none, am_rt_ite, ↓reduceIte, if_true, if_false, and_self, true_and, and_true, true_or, or_true, Bool.false_eq_true, reduceCtorEq]
        -- a thing's five tastes
        have lt : ∀ (n i : Nat) (A2 : TI), i + n = 5 → Fr [(32, 4)] [35] [] I A J (am_u2 I1 32 4 (I1 32 4 + A 33 k)) A2 J → (∀ j, j < 5 → A2 35 j = if j < i then suF (A 33) (A 13) j (k + 1) else suF (A 33) (A 13) j k) → am_T (am_EV X (d + 1) mX6_weigh 45 [.ref 32, .ref 13, .int (nI k), .int (A 33 k), .int (nI i)] [] (am_wd (am_u2 I1 32 4 (I1 32 4 + A 33 k)) A2 J)) (oU fun I' A' J' => Fr [(32, 4)] [35] [] I A J I' A' J' ∧ I' 32 4 = smf (A 33) 8 ∧ ∀ i, i < 5 → A' 35 i = suF (A 33) (A 13) i 8) := by
          intro n
          induction n with
          | zero =>
            intro i A2 hi f2 g3
            have i5 : i = 5 := by omega
            subst i5
            simp only [sX6_weigh_45, sX6_weigh_47, sX6_weigh_48, sX6_weigh_77, sX6_weigh_80, am_rt_some, am_rt_void, am_rt_none, am_rt_ite, ↓reduceIte, if_true, if_false, and_self, true_and, and_true, true_or, or_true, Bool.false_eq_true, reduceCtorEq, show (nI 5 < 5) = False by decide, am_n1]
            refine ih (k + 1) _ A2 _ _ (by omega) f2 ?_ (fun j hj => by rw [g3 j hj, if_pos hj])
            rw [am_u2_at, g1]; rfl
          | succ n ihn =>
            intro i A2 hi f2 g3
            have hl5 : (nI i < 5) = True := by rw [am_nlit (x := 5) 5 rfl (show i < 2147483648 by omega) (by decide)]; exact eq_true (by omega)
            have e13 : A2 13 = A 13 := f2.a 13 (by decide)
            have es : A2 35 i = suF (A 33) (A 13) i k := by rw [g3 i (by omega), if_neg (Nat.lt_irrefl i)]
            have nx := ihn (i + 1) (am_u A2 35 (upd (A2 35) i (suF (A 33) (A 13) i k + A 33 k * A 13 (5 * k + i)))) (by omega) (f2.ua (by decide)) (fun j hj => by
              rw [am_u_at]
              by_cases y : j = i
              · subst y
                rw [upd_at, if_pos (by omega)]; rfl
              · rw [upd_ne y, g3 j hj]
                by_cases y2 : j < i
                · rw [if_pos y2, if_pos (by omega)]
                · rw [if_neg y2, if_neg (by omega)])
            rw [sX6_weigh_45]
            simp only [sX6_weigh_47, sX6_weigh_48, sX6_weigh_51, sX6_weigh_52, sX6_weigh_55, sX6_weigh_57, sX6_weigh_58, sX6_weigh_59, sX6_weigh_60, sX6_weigh_61, sX6_weigh_62, sX6_weigh_64, sX6_weigh_67, sX6_weigh_68, sX6_weigh_69, sX6_weigh_70, sX6_weigh_71, sX6_weigh_74, wo_32, wf_32_0, wv_32_0, wf_32_1, wv_32_1, wf_32_2, wv_32_2, wp_32_2, wf_32_3, wv_32_3, wf_32_4, wv_32_4, wp_32_4, wi_35, wg_35, ws_35, ww_35, wl_35, wn_35, wi_13, wg_13, ws_13, ww_13, wl_13, wn_13, am_rt_some, am_rt_void, am_rt_none, am_rt_ite, ↓reduceIte, if_true, if_false, and_self, true_and, and_true, true_or, or_true, Bool.false_eq_true, reduceCtorEq, hl5, c_strengthAt, i55, am_nin (show i < 5 by omega) (show (5 : Nat) < 2147483648 by omega), am_ncl (show i < 2147483648 by omega), am_nin (show 5 * k + i < 40 by omega) (show (40 : Nat) < 2147483648 by omega), am_ncl (show 5 * k + i < 2147483648 by omega), e13, es, am_n1]
            exact nx
        exact lt 5 0 A1 rfl (f.ui (by decide)) (fun j hj => by rw [if_neg (Nat.not_lt_zero j)]; exact g2 j hj)
      · have z := in09_pos (hth k (by omega)) q
        simp only [q, if_false, sX6_weigh_77, sX6_weigh_80, am_n1]
        refine ih (k + 1) I1 A1 _ _ (by omega) f ?_ (fun j hj => ?_)
        · rw [g1]
          show smf (A 33) k = smf (A 33) k + A 33 k
          rw [z, Int32.add_zero]
        · rw [g2 j hj]
          show suF (A 33) (A 13) j k = suF (A 33) (A 13) j k + A 33 k * A 13 (5 * k + j)
          rw [z, Int32.zero_mul, Int32.add_zero]
  simp only [eX6_weigh, sX6_weigh_0, sX6_weigh_1, sX6_weigh_4, sX6_weigh_5, wo_32, wf_32_0, wv_32_0, wf_32_1, wv_32_1, wf_32_2, wv_32_2, wp_32_2, wf_32_3, wv_32_3, wf_32_4, wv_32_4, wp_32_4, am_rt_some, am_rt_void, am_rt_none, am_rt_ite, ↓reduceIte, if_true, if_false, and_self, true_and, and_true, true_or, or_true, Bool.false_eq_true, reduceCtorEq]
  rw [c_fillI (n := 5) (by decide) (wr_35)]
  simp only [am_rt_some, am_rt_void, am_rt_none, am_rt_ite, ↓reduceIte, if_true, if_false, and_self, true_and, and_true, true_or, or_true, Bool.false_eq_true, reduceCtorEq, sX6_weigh_8, sX6_weigh_9, sX6_weigh_10, sX6_weigh_13, sX6_weigh_14, wo_32, wf_32_0, wv_32_0, wf_32_1, wv_32_1, wf_32_2, wv_32_2, wp_32_2, wf_32_3, wv_32_3, wf_32_4, wv_32_4, wp_32_4, wi_35, wg_35, ws_35, ww_35, wl_35, wn_35]
  exact key 8 0 _ _ _ _ rfl ((Fr.rf.ua (by decide)).ui (by decide)) (by rw [am_u2_at]; rfl) (fun i hi => by rw [am_u_at]; unfold am_flI; rw [if_pos hi]; rfl)
theorem c_weigh49 (hth : ∀ j, j < 8 → in09 (A 50 j)) : am_T (am_CL X (d + 2) mX6_weigh [.ref 49, .ref 13] (am_wd I A J)) (oU fun I' A' J' => Fr [(49, 4)] [52] [] I A J I' A' J' ∧ I' 49 4 = smf (A 50) 8 ∧ ∀ i, i < 5 → A' 52 i = suF (A 50) (A 13) i 8) := by
  have key : ∀ (m k : Nat) (I1 A1 : TI) (z3 z4 : Value), k + m = 8 → Fr [(49, 4)] [52] [] I A J I1 A1 J → I1 49 4 = smf (A 50) k → (∀ i, i < 5 → A1 52 i = suF (A 50) (A 13) i k) → am_T (am_EV X (d + 1) mX6_weigh 15 [.ref 49, .ref 13, .int (nI k), z3, z4] [] (am_wd I1 A1 J)) (oU fun I' A' J' => Fr [(49, 4)] [52] [] I A J I' A' J' ∧ I' 49 4 = smf (A 50) 8 ∧ ∀ i, i < 5 → A' 52 i = suF (A 50) (A 13) i 8) := by
    intro m
    induction m with
    | zero =>
      intro k I1 A1 z3 z4 hk f g1 g2
      have h8 : k = 8 := by omega
      subst h8
      simp only [sX6_weigh_15, sX6_weigh_16, sX6_weigh_18, sX6_weigh_83, am_rt_some, am_rt_void, am_rt_none, am_rt_ite, ↓reduceIte, if_true, if_false, and_self, true_and, and_true, true_or, or_true, Bool.false_eq_true, reduceCtorEq, show (nI 8 < 8) = False by decide]
      exact am_T.ru ⟨f, g1, g2⟩
    | succ m ih =>
      intro k I1 A1 z3 z4 hk f g1 g2
      have hlt : (nI k < 8) = True := by rw [am_nlit (x := 8) 8 rfl (show k < 2147483648 by omega) (by decide)]; exact eq_true (by omega)
      have e1 : A1 50 = A 50 := f.a 50 (by decide)
      have e13 : A1 13 = A 13 := f.a 13 (by decide)
      rw [sX6_weigh_15]
      simp only [sX6_weigh_16, sX6_weigh_18, sX6_weigh_21, sX6_weigh_22, sX6_weigh_25, sX6_weigh_26, sX6_weigh_27, sX6_weigh_28, sX6_weigh_29, wo_49, wf_49_0, wv_49_0, wf_49_1, wv_49_1, wf_49_2, wv_49_2, wp_49_2, wf_49_3, wv_49_3, wf_49_4, wv_49_4, wp_49_4, wi_50, wg_50, ws_50, ww_50, wl_50, wn_50, am_rt_some, am_rt_void, am_rt_none, am_rt_ite, ↓reduceIte, if_true, if_false, and_self, true_and, and_true, true_or, or_true, Bool.false_eq_true, reduceCtorEq, hlt, am_nin (show k < 8 by omega) (show (8 : Nat) < 2147483648 by omega), am_ncl (show k < 2147483648 by omega), e1]
      by_cases q : 0 < A 50 k
      · simp only [q, if_true, sX6_weigh_32, sX6_weigh_33, sX6_weigh_33_r, sX6_weigh_34, sX6_weigh_37, sX6_weigh_38, sX6_weigh_39, sX6_weigh_42, sX6_weigh_43, wo_49, wf_49_0, wv_49_0, wf_49_1, wv_49_1, wf_49_2, wv_49_2, wp_49_2, wf_49_3, wv_49_3, wf_49_4, wv_49_4, wp_49_4, am_rt_some, am_rt_void, am_rt_none, am_rt_ite, ↓reduceIte, if_true, if_false, and_self, true_and, and_true, true_or, or_true, Bool.false_eq_true, reduceCtorEq]
        -- a thing's five tastes
        have lt : ∀ (n i : Nat) (A2 : TI), i + n = 5 → Fr [(49, 4)] [52] [] I A J (am_u2 I1 49 4 (I1 49 4 + A 50 k)) A2 J → (∀ j, j < 5 → A2 52 j = if j < i then suF (A 50) (A 13) j (k + 1) else suF (A 50) (A 13) j k) → am_T (am_EV X (d + 1) mX6_weigh 45 [.ref 49, .ref 13, .int (nI k), .int (A 50 k), .int (nI i)] [] (am_wd (am_u2 I1 49 4 (I1 49 4 + A 50 k)) A2 J)) (oU fun I' A' J' => Fr [(49, 4)] [52] [] I A J I' A' J' ∧ I' 49 4 = smf (A 50) 8 ∧ ∀ i, i < 5 → A' 52 i = suF (A 50) (A 13) i 8) := by
          intro n
          induction n with
          | zero =>
            intro i A2 hi f2 g3
            have i5 : i = 5 := by omega
            subst i5
            simp only [sX6_weigh_45, sX6_weigh_47, sX6_weigh_48, sX6_weigh_77, sX6_weigh_80, am_rt_some, am_rt_void, am_rt_none, am_rt_ite, ↓reduceIte, if_true, if_false, and_self, true_and, and_true, true_or, or_true, Bool.false_eq_true, reduceCtorEq, show (nI 5 < 5) = False by decide, am_n1]
            refine ih (k + 1) _ A2 _ _ (by omega) f2 ?_ (fun j hj => by rw [g3 j hj, if_pos hj])
            rw [am_u2_at, g1]; rfl
          | succ n ihn =>
            intro i A2 hi f2 g3
            have hl5 : (nI i < 5) = True := by rw [am_nlit (x := 5) 5 rfl (show i < 2147483648 by omega) (by decide)]; exact eq_true (by omega)
            have e13 : A2 13 = A 13 := f2.a 13 (by decide)
            have es : A2 52 i = suF (A 50) (A 13) i k := by rw [g3 i (by omega), if_neg (Nat.lt_irrefl i)]
            have nx := ihn (i + 1) (am_u A2 52 (upd (A2 52) i (suF (A 50) (A 13) i k + A 50 k * A 13 (5 * k + i)))) (by omega) (f2.ua (by decide)) (fun j hj => by
              rw [am_u_at]
              by_cases y : j = i
              · subst y
                rw [upd_at, if_pos (by omega)]; rfl
              · rw [upd_ne y, g3 j hj]
                by_cases y2 : j < i
                · rw [if_pos y2, if_pos (by omega)]
                · rw [if_neg y2, if_neg (by omega)])
            rw [sX6_weigh_45]
            simp only [sX6_weigh_47, sX6_weigh_48, sX6_weigh_51, sX6_weigh_52, sX6_weigh_55, sX6_weigh_57, sX6_weigh_58, sX6_weigh_59, sX6_weigh_60, sX6_weigh_61, sX6_weigh_62, sX6_weigh_64, sX6_weigh_67, sX6_weigh_68, sX6_weigh_69, sX6_weigh_70, sX6_weigh_71, sX6_weigh_74, wo_49, wf_49_0, wv_49_0, wf_49_1, wv_49_1, wf_49_2, wv_49_2, wp_49_2, wf_49_3, wv_49_3, wf_49_4, wv_49_4, wp_49_4, wi_52, wg_52, ws_52, ww_52, wl_52, wn_52, wi_13, wg_13, ws_13, ww_13, wl_13, wn_13, am_rt_some, am_rt_void, am_rt_none, am_rt_ite, ↓reduceIte, if_true, if_false, and_self, true_and, and_true, true_or, or_true, Bool.false_eq_true, reduceCtorEq, hl5, c_strengthAt, i55, am_nin (show i < 5 by omega) (show (5 : Nat) < 2147483648 by omega), am_ncl (show i < 2147483648 by omega), am_nin (show 5 * k + i < 40 by omega) (show (40 : Nat) < 2147483648 by omega), am_ncl (show 5 * k + i < 2147483648 by omega), e13, es, am_n1]
            exact nx
        exact lt 5 0 A1 rfl (f.ui (by decide)) (fun j hj => by rw [if_neg (Nat.not_lt_zero j)]; exact g2 j hj)
      · have z := in09_pos (hth k (by omega)) q
        simp only [q, if_false, sX6_weigh_77, sX6_weigh_80, am_n1]
        refine ih (k + 1) I1 A1 _ _ (by omega) f ?_ (fun j hj => ?_)
        · rw [g1]
          show smf (A 50) k = smf (A 50) k + A 50 k
          rw [z, Int32.add_zero]
        · rw [g2 j hj]
          show suF (A 50) (A 13) j k = suF (A 50) (A 13) j k + A 50 k * A 13 (5 * k + j)
          rw [z, Int32.zero_mul, Int32.add_zero]
  simp only [eX6_weigh, sX6_weigh_0, sX6_weigh_1, sX6_weigh_4, sX6_weigh_5, wo_49, wf_49_0, wv_49_0, wf_49_1, wv_49_1, wf_49_2, wv_49_2, wp_49_2, wf_49_3, wv_49_3, wf_49_4, wv_49_4, wp_49_4, am_rt_some, am_rt_void, am_rt_none, am_rt_ite, ↓reduceIte, if_true, if_false, and_self, true_and, and_true, true_or, or_true, Bool.false_eq_true, reduceCtorEq]
  rw [c_fillI (n := 5) (by decide) (wr_52)]
  simp only [am_rt_some, am_rt_void, am_rt_none, am_rt_ite, ↓reduceIte, if_true, if_false, and_self, true_and, and_true, true_or, or_true, Bool.false_eq_true, reduceCtorEq, sX6_weigh_8, sX6_weigh_9, sX6_weigh_10, sX6_weigh_13, sX6_weigh_14, wo_49, wf_49_0, wv_49_0, wf_49_1, wv_49_1, wf_49_2, wv_49_2, wp_49_2, wf_49_3, wv_49_3, wf_49_4, wv_49_4, wp_49_4, wi_52, wg_52, ws_52, ww_52, wl_52, wn_52]
  exact key 8 0 _ _ _ _ rfl ((Fr.rf.ua (by decide)).ui (by decide)) (by rw [am_u2_at]; rfl) (fun i hi => by rw [am_u_at]; unfold am_flI; rw [if_pos hi]; rfl)
end CK

/-! THE TAPE: an O, a line, a text -/
section TR
variable {X : Nat × (Nat → Int32)} {d : Nat} {I A : TI} {J : TJ} {w : am_W}
theorem tpPost.ret {n p a : Nat} {r : PR} {I A I' A' : TI} {J J' : TJ} {x : Int32} (h : tpPost n p a r I A J x I' A' J') : (x = 0 ∨ x = 1) = True := by
  obtain ⟨-, -, -, -, b, -, -, h | h⟩ := h
  · simp [h.1]
  · simp [h.1]
theorem pDig_lt {t : Nat → Int32} {n p : Nat} (hn : n ≤ 120) (h : ¬ lc t n p < 48 ∧ ¬ 57 < lc t n p) : p < n ∧ p < (pDig t n 4 p 0).1 ∧ (pDig t n 4 p 0).1 ≤ n ∧ ∃ y : Nat, y < 10000 ∧ (pDig t n 4 p 0).2 = nI y := by
  obtain ⟨c, c1, c2, c3⟩ := dg_of h
  have hpn : p < n := lc_lt c3 (by
    intro q
    have := congrArg Int32.toInt q
    rw [nI_toInt (by omega)] at this
    have h2 : (-1 : Int32).toInt = -1 := by decide
    omega)
  have e : pDig t n 4 p 0 = pDig t n 3 (p + 1) (nI (c - 48)) := by
    show (if ¬ lc t n p < 48 ∧ ¬ 57 < lc t n p then pDig t n 3 (p + 1) (0 * 10 + lc t n p - 48) else (p, 0)) = _
    rw [if_pos h, c3, show (0 : Int32) = nI 0 from rfl, show (10 : Int32) = nI 10 from rfl, show (48 : Int32) = nI 48 from rfl, i_mul, i_add, i_sub (by omega), show 0 * 10 + c - 48 = c - 48 by omega]
  rw [e]
  obtain ⟨g1, g2, g3, g4⟩ := pDig_b t n 3 (p + 1) (c - 48) 10 (by omega) (by omega) (by decide)
  exact ⟨hpn, by omega, g2, g4⟩
theorem nm_at {k : Nat} (h : k < 6) : ¬ (-1 - nI k) < (-6 : Int32) ∧ (-1 - nI k) < (0 : Int32) ∧ (-1 - (-1 - nI k)).toNatClampNeg = k := by
  rcases (by omega : k = 0 ∨ k = 1 ∨ k = 2 ∨ k = 3 ∨ k = 4 ∨ k = 5) with rfl | rfl | rfl | rfl | rfl | rfl <;> decide
theorem rd_leaf {D n : Nat} {t : Nat → Int32} {rest : Nat → PR} {o : Int32} (h : ∀ (X : Nat × (Nat → Int32)) (d : Nat) (I A : TI) (J : TJ) (p a : Nat), D + 2 ≤ d → tpPre n p a t I A → am_T (am_EV X d mX9_readO 44 [.ref 1, .int o, .int (lc t n p), .int 0] [] (am_wd I A J)) (oE (tpPost n p a (rest p) I A J))) : Rds (D + 3) mX9_readO [.int o] n t (fun p => (pLeaf t n p).getD (rest p)) := by
  intro X d I A J p a hd hpre
  obtain ⟨k, rfl⟩ : ∃ k, d = k + 3 := ⟨d - 3, by omega⟩
  have hpre2 := hpre
  obtain ⟨h1, h2, h3, h4, hn, hp, ha⟩ := hpre
  have e10 : ((1 : Int32) = 0) = False := by decide
  simp only [eX9_readO, sX9_readO_0, sX9_readO_1, sX9_readO_4, sX9_readO_5, sX9_readO_6, sX9_readO_9, wo_1, wf_1_0, wv_1_0, wf_1_1, wv_1_1, wp_1_1, wf_1_2, wv_1_2, wp_1_2, wf_1_3, wv_1_3, wf_1_4, wv_1_4, wp_1_4, wf_1_5, wv_1_5, wf_1_6, wv_1_6, wf_1_7, wv_1_7, wp_1_7, am_rt_some, am_rt_void, am_rt_none, am_rt_ite, ↓reduceIte, if_true, if_false, and_self, true_and, and_true, true_or, or_true, Bool.false_eq_true, reduceCtorEq, c_next hn (show p ≤ 120 by omega) h1 h3, h2, c_isDigit, am_bi_eq0]
  by_cases q : ¬ lc t n p < 48 ∧ ¬ 57 < lc t n p
  · obtain ⟨z1, z2, z3, y, z4, z5⟩ := pDig_lt hn q
    have e : (pLeaf t n p).getD (rest p) = ((pDig t n 4 p 0).1, some (fun _ => (pDig t n 4 p 0).2)) := by unfold pLeaf; rw [if_pos q]; rfl
    rw [if_neg (fun g => g q), e]
    simp only [sX9_readO_12, sX9_readO_13, wo_1, wf_1_0, wv_1_0, wf_1_1, wv_1_1, wp_1_1, wf_1_2, wv_1_2, wp_1_2, wf_1_3, wv_1_3, wf_1_4, wv_1_4, wp_1_4, wf_1_5, wv_1_5, wf_1_6, wv_1_6, wf_1_7, wv_1_7, wp_1_7, am_rt_some, am_rt_void, am_rt_none, am_rt_ite, ↓reduceIte, if_true, if_false, and_self, true_and, and_true, true_or, or_true, Bool.false_eq_true, reduceCtorEq]
    refine am_T.rtU (c_readNumber hpre2 (by omega)) ?_
    intro I1 A1 J1 ⟨f, g1, g2, g3, g4⟩
    simp only [sX9_readO_16, sX9_readO_17, am_rt_some, am_rt_void, am_rt_none, am_rt_ite, ↓reduceIte, if_true, if_false, and_self, true_and, and_true, true_or, or_true, Bool.false_eq_true, reduceCtorEq]
    refine am_T.re ⟨f, g1, by show p ≤ (pDig t n 4 p 0).1; omega, z3, a + 1, g2, by omega, Or.inr ⟨rfl, _, rfl, by show a + 1 + p ≤ a + (pDig t n 4 p 0).1; omega, by omega, g4, xVal.leaf ?_ fun nm => ?_⟩⟩
    · rw [g3, z5]
      intro hh
      exact nI_pos (show y < 2 ^ 31 by omega) (Int32.lt_trans hh (by decide))
    · rw [g3, z5, if_neg (nI_pos (show y < 2 ^ 31 by omega))]
  · rw [if_pos q]
    simp only [sX9_readO_18, sX9_readO_19, sX9_readO_22, sX9_readO_23, sX9_readO_24, am_rt_some, am_rt_void, am_rt_none, am_rt_ite, ↓reduceIte, if_true, if_false, and_self, true_and, and_true, true_or, or_true, Bool.false_eq_true, reduceCtorEq, c_nameStep]
    cases hnm : pName (lc t n p) with
    | some nk =>
      obtain ⟨y1, y2, y3⟩ := nmS_some hnm
      obtain ⟨y4, y5, y6⟩ := nm_at y1
      have hlt : p < n := lc_lt rfl y3
      have e : (pLeaf t n p).getD (rest p) = (p + 1, some (fun nm => nm nk)) := by unfold pLeaf; rw [if_neg q, hnm]; rfl
      have e0 : (nmS (lc t n p) = 0) = False := by
        rw [y2]
        exact eq_false fun g => by
          rw [g] at y5
          exact absurd y5 (by decide)
      rw [e]
      simp only [e0, if_false, sX9_readO_27, sX9_readO_28, sX9_readO_28_r, sX9_readO_29, sX9_readO_32, sX9_readO_33, sX9_readO_34, sX9_readO_37, sX9_readO_38, sX9_readO_39, wo_1, wf_1_0, wv_1_0, wf_1_1, wv_1_1, wp_1_1, wf_1_2, wv_1_2, wp_1_2, wf_1_3, wv_1_3, wf_1_4, wv_1_4, wp_1_4, wf_1_5, wv_1_5, wf_1_6, wv_1_6, wf_1_7, wv_1_7, wp_1_7, am_rt_some, am_rt_void, am_rt_none, am_rt_ite, ↓reduceIte, if_true, if_false, and_self, true_and, and_true, true_or, or_true, Bool.false_eq_true, reduceCtorEq, h3, am_n1]
      refine am_T.rtU (c_make (show a ≤ 120 by omega) h4) ?_
      intro I3 A3 J3 ⟨f3, q0, b3, q1, q2, q3⟩
      obtain ⟨rfl, q4, q5⟩ := q3 (by omega)
      simp only [sX9_readO_42, sX9_readO_43, am_rt_some, am_rt_void, am_rt_none, am_rt_ite, ↓reduceIte, if_true, if_false, and_self, true_and, and_true, true_or, or_true, Bool.false_eq_true, reduceCtorEq]
      refine am_T.re ⟨(Fr.rf.ui (by decide)).tr f3, q0, by show p ≤ p + 1; omega, hlt, a + 1, q1, q2, Or.inr ⟨rfl, _, rfl, by show a + 1 + p ≤ a + (p + 1); omega, by omega, q5, xVal.leaf ?_ fun nm => ?_⟩⟩
      · rw [q4, y2]
        exact y4
      · rw [q4, y2, if_pos y5, y6]
    | none =>
      have e : (pLeaf t n p).getD (rest p) = rest p := by unfold pLeaf; rw [if_neg q, hnm]; rfl
      rw [e]
      simp only [nmS_none hnm, if_true]
      exact h X (k + 2) I A J p a (by omega) hpre2
theorem rd_lv {D n : Nat} {t : Nat → Int32} {o : Int32} {po : Nat → PR} (hs : Rds (D + 1) mX9_readO [.int o] n t po) : Rds (D + 6) mX9_readE [.int o] n t (pEf t n po) :=
  rd_E (D := D + 4) (rd_A (D := D + 3) (rd_B (D := D + 2) (rd_S (D := D + 1) (rd_P (D := D) hs))))
theorem rd_O {n : Nat} {t : Nat → Int32} : ∀ r : Nat, r ≤ 6 → Rds (7 * r + 3) mX9_readO [.int (nI (6 - r))] n t (pO t n r)
  | 0, _ => by
    show Rds (0 + 3) mX9_readO [.int (nI 6)] n t (fun p => (pLeaf t n p).getD (p, none))
    refine rd_leaf ?_
    intro X d I A J p a hd ⟨h1, h2, h3, h4, hn, hp, ha⟩
    simp only [sX9_readO_44, sX9_readO_45, sX9_readO_47, sX9_readO_68, sX9_readO_69, am_rt_some, am_rt_void, am_rt_none, am_rt_ite, ↓reduceIte, if_true, if_false, and_self, true_and, and_true, true_or, or_true, Bool.false_eq_true, reduceCtorEq, show (nI 6 < 6) = False by decide]
    exact am_T.re ⟨Fr.rf, h3, Nat.le_refl _, hp, a, h4, by omega, Or.inl ⟨rfl, rfl⟩⟩
  | r + 1, hr => by
    have ih := rd_O (n := n) (t := t) r (by omega)
    have ho : (nI (6 - (r + 1)) : Int32) + 1 = nI (6 - r) := by rw [am_n1]; congr 1; omega
    show Rds ((7 * r + 7) + 3) mX9_readO [.int (nI (6 - (r + 1)))] n t (fun p => (pLeaf t n p).getD (if lc t n p = 40 then pIn t n (pO t n r) p else if lc t n p = 33 ∨ lc t n p = 45 then pSg t n (pO t n r) p else (p, none)))
    refine rd_leaf ?_
    intro X d I A J p a hd hpre
    have hpre2 := hpre
    obtain ⟨h1, h2, h3, h4, hn, hp, ha⟩ := hpre
    have hlt : (nI (6 - (r + 1)) < 6) = True := by rw [am_nlit (x := 6) 6 rfl (show 6 - (r + 1) < 2147483648 by omega) (by decide)]; exact eq_true (by omega)
    by_cases z0 : lc t n p = 40
    · have hpn := lc_lt z0 (by decide)
      rw [if_pos z0, pIn_eq]
      simp only [z0, sX9_readO_44, sX9_readO_45, sX9_readO_47, sX9_readO_50, sX9_readO_51, sX9_readO_53, sX9_readO_70, sX9_readO_71, sX9_readO_71_r, sX9_readO_72, sX9_readO_75, sX9_readO_76, sX9_readO_77, sX9_readO_80, sX9_readO_81, sX9_readO_83, sX9_readO_86, sX9_readO_87, sX9_readO_88, sX9_readO_89, sX9_readO_90, wo_1, wf_1_0, wv_1_0, wf_1_1, wv_1_1, wp_1_1, wf_1_2, wv_1_2, wp_1_2, wf_1_3, wv_1_3, wf_1_4, wv_1_4, wp_1_4, wf_1_5, wv_1_5, wf_1_6, wv_1_6, wf_1_7, wv_1_7, wp_1_7, am_rt_some, am_rt_void, am_rt_none, am_rt_ite, ↓reduceIte, if_true, if_false, and_self, true_and, and_true, true_or, or_true, Bool.false_eq_true, reduceCtorEq, hlt, h3, am_n1, ho]
      refine am_T.rtE (rd_In (rd_lv (D := 7 * r + 2) ih) X d _ _ _ (p + 1) a (by omega) ⟨h1, h2, rfl, h4, hn, by omega, by omega⟩) ?_
      intro x I1 A1 J1 hpost
      have hret := hpost.ret
      obtain ⟨f, g1, g2, g3, b, g4, g5, g6⟩ := hpost
      simp only [sX9_readO_93, sX9_readO_96, sX9_readO_97, sX9_readO_98, sX9_readO_99, sX9_readO_100, sX9_readO_101, sX9_readO_104, am_rt_some, am_rt_void, am_rt_none, am_rt_ite, ↓reduceIte, if_true, if_false, and_self, true_and, and_true, true_or, or_true, Bool.false_eq_true, reduceCtorEq, hret]
      refine am_T.re ⟨(Fr.rf.ui (by decide)).tr f, g1, by omega, g3, b, g4, g5, ?_⟩
      rcases g6 with g6 | ⟨k1, v, k2, k3, k4⟩
      · exact Or.inl g6
      · exact Or.inr ⟨k1, v, k2, by omega, k4⟩
    · by_cases z1 : lc t n p = 33 ∨ lc t n p = 45
      · have hpn : p < n := by
          rcases z1 with h | h <;> exact lc_lt h (by decide)
        rw [if_neg z0, if_pos z1, pSg_eq]
        have test : ∀ (cc : Value) (w : am_W), am_EV X d mX9_readO 56 [.ref 1, .int (nI (6 - (r + 1))), .int (lc t n p), cc] [] w = am_EV X d mX9_readO 70 [.ref 1, .int (nI (6 - (r + 1))), .int (lc t n p), cc] [] w := by
          intro cc w
          simp only [sX9_readO_56, sX9_readO_57, sX9_readO_59, sX9_readO_62, sX9_readO_63, sX9_readO_65]
          rcases z1 with h | h <;> simp only [h, if_true, ite_self]
        simp only [sX9_readO_44, sX9_readO_45, sX9_readO_47, sX9_readO_50, sX9_readO_51, sX9_readO_53, am_rt_some, am_rt_void, am_rt_none, am_rt_ite, ↓reduceIte, if_true, if_false, and_self, true_and, and_true, true_or, or_true, Bool.false_eq_true, reduceCtorEq, hlt, z0]
        rw [test]
        simp only [sX9_readO_70, sX9_readO_71, sX9_readO_71_r, sX9_readO_72, sX9_readO_75, sX9_readO_76, sX9_readO_77, sX9_readO_80, sX9_readO_81, sX9_readO_83, wo_1, wf_1_0, wv_1_0, wf_1_1, wv_1_1, wp_1_1, wf_1_2, wv_1_2, wp_1_2, wf_1_3, wv_1_3, wf_1_4, wv_1_4, wp_1_4, wf_1_5, wv_1_5, wf_1_6, wv_1_6, wf_1_7, wv_1_7, wp_1_7, am_rt_some, am_rt_void, am_rt_none, am_rt_ite, ↓reduceIte, if_true, if_false, and_self, true_and, and_true, true_or, or_true, Bool.false_eq_true, reduceCtorEq, z0, h3, am_n1]
        simp only [sX9_readO_96, sX9_readO_97, sX9_readO_98, sX9_readO_99, sX9_readO_100, sX9_readO_101, wo_1, wf_1_0, wv_1_0, wf_1_1, wv_1_1, wp_1_1, wf_1_2, wv_1_2, wp_1_2, wf_1_3, wv_1_3, wf_1_4, wv_1_4, wp_1_4, wf_1_5, wv_1_5, wf_1_6, wv_1_6, wf_1_7, wv_1_7, wp_1_7, am_rt_some, am_rt_void, am_rt_none, am_rt_ite, ↓reduceIte, if_true, if_false, and_self, true_and, and_true, true_or, or_true, Bool.false_eq_true, reduceCtorEq, ho, am_n1]
        refine am_T.rtE (rd_Sg (c := lc t n p) (ih.up (show 7 * r + 3 ≤ 7 * r + 2 + 1 by omega)) X d _ _ _ (p + 1) a (by omega) ⟨h1, h2, rfl, h4, hn, by omega, by omega⟩ (by omega)) ?_
        intro x I1 A1 J1 hpost
        have hret := hpost.ret
        obtain ⟨f, g1, g2, g3, b, g4, g5, g6⟩ := hpost
        simp only [sX9_readO_104, am_rt_some, am_rt_void, am_rt_none, am_rt_ite, ↓reduceIte, if_true, if_false, and_self, true_and, and_true, true_or, or_true, Bool.false_eq_true, reduceCtorEq, hret]
        refine am_T.re ⟨(Fr.rf.ui (by decide)).tr f, g1, by omega, g3, b, g4, g5, ?_⟩
        rcases g6 with g6 | ⟨k1, v, k2, k3, k4⟩
        · exact Or.inl g6
        · exact Or.inr ⟨k1, v, k2, by omega, k4⟩
      · have z2 : ¬ lc t n p = 33 := fun h => z1 (Or.inl h)
        have z3 : ¬ lc t n p = 45 := fun h => z1 (Or.inr h)
        rw [if_neg z0, if_neg z1]
        simp only [sX9_readO_44, sX9_readO_45, sX9_readO_47, sX9_readO_50, sX9_readO_51, sX9_readO_53, sX9_readO_56, sX9_readO_57, sX9_readO_59, sX9_readO_62, sX9_readO_63, sX9_readO_65, sX9_readO_68, sX9_readO_69, am_rt_some, am_rt_void, am_rt_none, am_rt_ite, ↓reduceIte, if_true, if_false, and_self, true_and, and_true, true_or, or_true, Bool.false_eq_true, reduceCtorEq, hlt, z0, z2, z3]
        exact am_T.re ⟨Fr.rf, h3, Nat.le_refl _, hp, a, h4, by omega, Or.inl ⟨rfl, rfl⟩⟩
theorem rd_top {n : Nat} {t : Nat → Int32} : Rds 50 mX9_readE [.int 0] n t (pE t n) := rd_lv (D := 44) (rd_O (n := n) (t := t) 6 (Nat.le_refl _))
/-- behind a line -/
def tlPost (n p a l : Nat) (r : Nat × Option LN) (I A : TI) (J : TJ) : Int32 → TI → TI → TJ → Prop := fun x I' A' J' => Fr [(1, 2), (1, 4), (1, 7)] [3, 4, 5] [] I A J I' A' J' ∧ I' 1 2 = nI r.1 ∧ p ≤ r.1 ∧ r.1 ≤ n ∧ ((x = 0 ∧ r.2 = none) ∨ (x = 1 ∧ ∃ (ln : LN) (m b : Nat), r.2 = some ln ∧ I' 1 4 = nI b ∧ b + p ≤ a + r.1 ∧ a ≤ m ∧ m < b ∧ I' 1 7 = nI (l + 1) ∧ A' 4 l = nI m ∧ A' 5 l = nI b ∧ (∀ j, j < l → A' 4 j = A 4 j ∧ A' 5 j = A 5 j) ∧ (∀ j, j < a → A' 3 j = A 3 j) ∧ (match ln.1 with
  | none => m = a
  | some c => xVal (A' 3) a m c) ∧ xVal (A' 3) m b ln.2))
theorem rd_line {n p a l : Nat} {t : Nat → Int32} (hpre : tpPre n p a t I A) (hl : I 1 7 = nI l) (hl2 : 2 * l ≤ p) : am_T (am_CL X (d + 52) mX9_readLine [.ref 1] (am_wd I A J)) (oE (tlPost n p a l (pLine t n p) I A J)) := by
  have hpre2 := hpre
  obtain ⟨h1, h2, h3, h4, hn, hp, ha⟩ := hpre
  have e10 : ((1 : Int32) = 0) = False := by decide
  -- the end
  have fin : ∀ (q b m : Nat) (ln : LN) (I1 A1 : TI) (J1 : TJ), Fr [(1, 2), (1, 4), (1, 7)] [3, 4, 5] [] I A J I1 A1 J1 → I1 1 2 = nI q → I1 1 4 = nI b → I1 1 7 = nI l → A1 4 = A 4 → A1 5 = A 5 → p ≤ q → q ≤ n → b + p ≤ a + q → a ≤ m → m < b → (∀ j, j < a → A1 3 j = A 3 j) → (match ln.1 with
      | none => m = a
      | some c => xVal (A1 3) a m c) → xVal (A1 3) m b ln.2 → am_T (am_EV X (d + 51) mX9_readLine 49 [.ref 1, .int (nI m)] [] (am_wd I1 A1 J1)) (oE (tlPost n p a l (q, some ln) I A J)) := by
    intro q b m ln I1 A1 J1 f g1 g2 g3 g4 g5 g6 g7 g8 g9 g10 g11 g12 g13
    have hlt : (nI l < 60) = True := by rw [am_nlit (x := 60) 60 rfl (show l < 2147483648 by omega) (by decide)]; exact eq_true (by omega)
    simp only [sX9_readLine_49, sX9_readLine_50, sX9_readLine_53, sX9_readLine_55, sX9_readLine_58, sX9_readLine_59, sX9_readLine_62, sX9_readLine_63, sX9_readLine_66, sX9_readLine_67, sX9_readLine_68, sX9_readLine_69, sX9_readLine_72, sX9_readLine_73, sX9_readLine_76, sX9_readLine_77, sX9_readLine_80, sX9_readLine_81, sX9_readLine_82, sX9_readLine_82_r, sX9_readLine_83, sX9_readLine_86, sX9_readLine_87, sX9_readLine_88, sX9_readLine_91, sX9_readLine_92, wo_1, wf_1_0, wv_1_0, wf_1_1, wv_1_1, wp_1_1, wf_1_2, wv_1_2, wp_1_2, wf_1_3, wv_1_3, wf_1_4, wv_1_4, wp_1_4, wf_1_5, wv_1_5, wf_1_6, wv_1_6, wf_1_7, wv_1_7, wp_1_7, wi_4, wg_4, ws_4, ww_4, wl_4, wn_4, wi_5, wg_5, ws_5, ww_5, wl_5, wn_5, am_rt_some, am_rt_void, am_rt_none, am_rt_ite, ↓reduceIte, if_true, if_false, and_self, true_and, and_true, true_or, or_true, Bool.false_eq_true, reduceCtorEq, g3, g2, hlt, am_nin (show l < 60 by omega) (show (60 : Nat) < 2147483648 by omega), am_ncl (show l < 2147483648 by omega), am_n1]
    refine am_T.re ⟨?_, g1, g6, g7, Or.inr ⟨rfl, ln, m, b, rfl, g2, g8, g9, g10, rfl, ?_, ?_, fun j hj => ⟨?_, ?_⟩, g11, g12, g13⟩⟩
    · exact ((f.ua (by decide)).ua (by decide)).ui (by decide)
    · simp [am_u, upd]
    · simp [am_u, upd]
    · simp [am_u, upd, show ¬ j = l by omega, g4]
    · simp [am_u, upd, show ¬ j = l by omega, g5]
  simp only [eX9_readLine, sX9_readLine_0, sX9_readLine_1, sX9_readLine_4, sX9_readLine_5, sX9_readLine_6, sX9_readLine_7, wo_1, wf_1_0, wv_1_0, wf_1_1, wv_1_1, wp_1_1, wf_1_2, wv_1_2, wp_1_2, wf_1_3, wv_1_3, wf_1_4, wv_1_4, wp_1_4, wf_1_5, wv_1_5, wf_1_6, wv_1_6, wf_1_7, wv_1_7, wp_1_7, am_rt_some, am_rt_void, am_rt_none, am_rt_ite, ↓reduceIte, if_true, if_false, and_self, true_and, and_true, true_or, or_true, Bool.false_eq_true, reduceCtorEq, h4]
  refine am_T.rtE (rd_top X (d + 51) I A J p a (by omega) hpre2) ?_
  intro x I1 A1 J1 ⟨f, g1, g2, g3, b, g4, g5, g6⟩
  have f' : Fr [(1, 2), (1, 4), (1, 7)] [3, 4, 5] [] I A J I1 A1 J1 := f.mo (by decide) (by decide) (by decide)
  rcases g6 with ⟨rfl, hno⟩ | ⟨rfl, v, hv, k1, k2, k3, k4⟩
  · have e : pLine t n p = ((pE t n p).1, none) := by unfold pLine; rw [hno]
    rw [e]
    simp only [sX9_readLine_10, sX9_readLine_13, sX9_readLine_14, am_rt_some, am_rt_void, am_rt_none, am_rt_ite, ↓reduceIte, if_true, if_false, and_self, true_and, and_true, true_or, or_true, Bool.false_eq_true, reduceCtorEq]
    exact am_T.re ⟨f', g1, g2, g3, Or.inl ⟨rfl, rfl⟩⟩
  · have hc1 : I1 1 1 = nI n := (f.i 1 1 (by decide)).trans h1
    have hc2 : A1 2 = t := (f.a 2 (by decide)).trans h2
    simp only [sX9_readLine_10, sX9_readLine_13, sX9_readLine_14, sX9_readLine_15, sX9_readLine_16, sX9_readLine_19, sX9_readLine_21, wo_1, wf_1_0, wv_1_0, wf_1_1, wv_1_1, wp_1_1, wf_1_2, wv_1_2, wp_1_2, wf_1_3, wv_1_3, wf_1_4, wv_1_4, wp_1_4, wf_1_5, wv_1_5, wf_1_6, wv_1_6, wf_1_7, wv_1_7, wp_1_7, am_rt_some, am_rt_void, am_rt_none, am_rt_ite, ↓reduceIte, if_true, if_false, and_self, true_and, and_true, true_or, or_true, Bool.false_eq_true, reduceCtorEq, e10, c_next hn (show (pE t n p).1 ≤ 120 by omega) hc1 g1, hc2]
    by_cases hq : lc t n (pE t n p).1 = 63
    · have hqn := lc_lt hq (by decide)
      have hP : pLine t n p = (match (pE t n ((pE t n p).1 + 1)).2 with
        | none => ((pE t n ((pE t n p).1 + 1)).1, none)
        | some v2 => ((pE t n ((pE t n p).1 + 1)).1, some (some v, v2))) := by
        unfold pLine
        rw [hv]
        exact if_pos hq
      rw [if_pos hq, hP]
      simp only [sX9_readLine_24, sX9_readLine_25, sX9_readLine_25_r, sX9_readLine_26, sX9_readLine_29, sX9_readLine_30, sX9_readLine_31, sX9_readLine_34, sX9_readLine_35, sX9_readLine_38, sX9_readLine_39, sX9_readLine_40, sX9_readLine_41, wo_1, wf_1_0, wv_1_0, wf_1_1, wv_1_1, wp_1_1, wf_1_2, wv_1_2, wp_1_2, wf_1_3, wv_1_3, wf_1_4, wv_1_4, wp_1_4, wf_1_5, wv_1_5, wf_1_6, wv_1_6, wf_1_7, wv_1_7, wp_1_7, am_rt_some, am_rt_void, am_rt_none, am_rt_ite, ↓reduceIte, if_true, if_false, and_self, true_and, and_true, true_or, or_true, Bool.false_eq_true, reduceCtorEq, g1, g4, am_n1]
      simp only [am_u2, if_true, show ((4 : Nat) = 2) = False by decide, if_false, g4]
      refine am_T.rtE (rd_top X (d + 51) _ _ _ ((pE t n p).1 + 1) b (by omega) ⟨hc1, hc2, rfl, g4, hn, by omega, by omega⟩) ?_
      intro x2 I2 A2 J2 ⟨f2, q1, q2, q3, b2, q4, q5, q6⟩
      have f2' : Fr [(1, 2), (1, 4), (1, 7)] [3, 4, 5] [] I A J I2 A2 J2 := (f'.ui (by decide)).tr (f2.mo (by decide) (by decide) (by decide))
      rcases q6 with ⟨rfl, hno⟩ | ⟨rfl, v2, hv2, j1, j2, j3, j4⟩
      · rw [hno]
        simp only [sX9_readLine_44, sX9_readLine_47, sX9_readLine_48, am_rt_some, am_rt_void, am_rt_none, am_rt_ite, ↓reduceIte, if_true, if_false, and_self, true_and, and_true, true_or, or_true, Bool.false_eq_true, reduceCtorEq]
        exact am_T.re ⟨f2', q1, by show p ≤ (pE t n ((pE t n p).1 + 1)).1; omega, q3, Or.inl ⟨rfl, rfl⟩⟩
      · rw [hv2, sX9_readLine_44]
        simp only [e10, if_false]
        refine fin _ b2 b (some v, v2) I2 A2 J2 f2' q1 q4 ?_ ?_ ?_ (by omega) q3 (by omega) (by omega) j2 ?_ ?_ j4
        · rw [f2.i 1 7 (by decide)]
          exact (f.i 1 7 (by decide)).trans hl
        · rw [f2.a 4 (by decide)]
          exact f.a 4 (by decide)
        · rw [f2.a 5 (by decide)]
          exact f.a 5 (by decide)
        · intro j hj
          rw [j3 j (by omega), k3 j hj]
        · exact k4.congr fun j i1 i2 => j3 j i2
    · have hP : pLine t n p = ((pE t n p).1, some (none, v)) := by
        unfold pLine
        rw [hv]
        exact if_neg hq
      rw [if_neg hq, hP]
      exact fin _ b a (none, v) I1 A1 J1 f' g1 g4 ((f.i 1 7 (by decide)).trans hl) (f.a 4 (by decide)) (f.a 5 (by decide)) g2 g3 (by omega) (Nat.le_refl _) k2 k3 rfl k4
end TR

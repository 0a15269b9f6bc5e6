/-! THE TAPE: how the class reads a text -/
section TP
variable {X : Nat × (Nat → Int32)} {d : Nat} {I A : TI} {J : TJ} {w : am_W}
theorem lc_in {t : Nat → Int32} {n p : Nat} (h : p < n) : lc t n p = t p := if_pos h
theorem lc_out {t : Nat → Int32} {n p : Nat} (h : ¬ p < n) : lc t n p = -1 := if_neg h
theorem lc_lt {t : Nat → Int32} {n p : Nat} {x : Int32} (h : lc t n p = x) (hx : x ≠ -1) : p < n := by
  by_cases q : p < n
  · exact q
  · rw [lc_out q] at h
    exact absurd h.symm hx
theorem c_next {n p : Nat} (hn : n ≤ 120) (hp : p ≤ 120) (h1 : I 1 1 = nI n) (h2 : I 1 2 = nI p) : am_CL X (d + 1) mX9_next [.ref 1] (am_wd I A J) = some (some (.int (lc (A 2) n p)), am_wd I A J) := by
  simp only [eX9_next, sX9_next_0, sX9_next_1, sX9_next_4, sX9_next_7, sX9_next_8, sX9_next_11, sX9_next_12, sX9_next_15, sX9_next_18, sX9_next_19, sX9_next_22, sX9_next_23, sX9_next_26, sX9_next_27, sX9_next_30, sX9_next_31, wo_1, wf_1_0, wv_1_0, wf_1_1, wv_1_1, wp_1_1, wf_1_2, wv_1_2, wp_1_2, wf_1_3, wv_1_3, wf_1_4, wv_1_4, wp_1_4, wf_1_5, wv_1_5, wf_1_6, wv_1_6, wf_1_7, wv_1_7, wp_1_7, wi_2, wg_2, ws_2, ww_2, wl_2, wn_2, am_rt_some, am_rt_void, am_rt_none, am_rt_ite, ↓reduceIte, if_true, if_false, and_self, true_and, and_true, true_or, or_true, Bool.false_eq_true, reduceCtorEq, h1, h2, am_n0 (show p < 2147483648 by omega), am_nlt (show p < 2147483648 by omega) (show n < 2147483648 by omega)]
  by_cases h : p < n
  · simp only [h, if_true, am_nin (show p < 120 by omega) (show (120 : Nat) < 2147483648 by omega), am_ncl (show p < 2147483648 by omega), lc_in h]
  · simp only [h, if_false, lc_out h]
theorem c_make {a : Nat} {s : Int32} (ha : a ≤ 120) (h : I 1 4 = nI a) : am_T (am_CL X (d + 1) mX9_make [.ref 1, .int s] (am_wd I A J)) (oU fun I' A' J' => Fr [(1, 2), (1, 4)] [3] [] I A J I' A' J' ∧ I' 1 2 = I 1 2 ∧ ∃ b : Nat, I' 1 4 = nI b ∧ b ≤ 120 ∧ (a < 120 → b = a + 1 ∧ A' 3 a = s ∧ ∀ j, j < a → A' 3 j = A 3 j)) := by
  have e : (nI a < 120) = (a < 120) := am_nlit 120 rfl (by omega) (by omega)
  simp only [eX9_make, sX9_make_0, sX9_make_1, sX9_make_4, sX9_make_6, sX9_make_9, sX9_make_10, sX9_make_13, sX9_make_14, sX9_make_14_r, sX9_make_15, sX9_make_18, sX9_make_19, sX9_make_20, sX9_make_21, sX9_make_24, sX9_make_25, sX9_make_26, wo_1, wf_1_0, wv_1_0, wf_1_1, wv_1_1, wp_1_1, wf_1_2, wv_1_2, wp_1_2, wf_1_3, wv_1_3, wf_1_4, wv_1_4, wp_1_4, wf_1_5, wv_1_5, wf_1_6, wv_1_6, wf_1_7, wv_1_7, wp_1_7, wi_3, wg_3, ws_3, ww_3, wl_3, wn_3, am_rt_some, am_rt_void, am_rt_none, am_rt_ite, ↓reduceIte, if_true, if_false, and_self, true_and, and_true, true_or, or_true, Bool.false_eq_true, reduceCtorEq, h, e]
  by_cases q : a < 120
  · simp only [q, if_true, am_nin q (show (120 : Nat) < 2147483648 by omega), am_ncl (show a < 2147483648 by omega), am_n1]
    refine am_T.ru ⟨(Fr.rf.ui (by decide)).ua (by decide), rfl, a + 1, rfl, by omega, fun _ => ⟨rfl, ?_, fun j hj => ?_⟩⟩
    · simp [am_u, upd]
    · simp [am_u, upd, show ¬ j = a by omega]
  · simp only [q, if_false]
    exact am_T.ru ⟨Fr.rf, rfl, a, h, ha, fun q' => q'.elim⟩
theorem c_isDigit {x : Int32} : am_CL X (d + 1) mX9_isDigit [.int x] w = some (some (.int (if ¬ x < 48 ∧ ¬ 57 < x then 1 else 0)), w) := by
  simp only [eX9_isDigit, sX9_isDigit_0, sX9_isDigit_1, sX9_isDigit_3, sX9_isDigit_6, sX9_isDigit_7, sX9_isDigit_9, sX9_isDigit_12, sX9_isDigit_13, sX9_isDigit_16, sX9_isDigit_17, am_rt_some, am_rt_void, am_rt_none, am_rt_ite, ↓reduceIte, if_true, if_false, and_self, true_and, and_true, true_or, or_true, Bool.false_eq_true, reduceCtorEq]
  by_cases h1 : x < 48 <;> by_cases h2 : 57 < x <;> simp only [h1, h2, not_true_eq_false, not_false_eq_true, and_true, true_and, and_false, false_and, if_true, if_false, and_self]
/-- ahead of a reader: the tape's letters, the place, the steps made -/
def tpPre (n p a : Nat) (t : Nat → Int32) (I A : TI) : Prop := I 1 1 = nI n ∧ A 2 = t ∧ I 1 2 = nI p ∧ I 1 4 = nI a ∧ n ≤ 120 ∧ p ≤ n ∧ a ≤ p
def tpPost (n p a : Nat) (r : PR) (I A : TI) (J : TJ) : Int32 → TI → TI → TJ → Prop := fun x I' A' J' => Fr [(1, 2), (1, 4)] [3] [] I A J I' A' J' ∧ I' 1 2 = nI r.1 ∧ p ≤ r.1 ∧ r.1 ≤ n ∧ ∃ b : Nat, I' 1 4 = nI b ∧ b ≤ 120 ∧ ((x = 0 ∧ r.2 = none) ∨ (x = 1 ∧ ∃ v, r.2 = some v ∧ b + p ≤ a + r.1 ∧ a < b ∧ (∀ j, j < a → A' 3 j = A 3 j) ∧ xVal (A' 3) a b v))
def Rds (D : Nat) (M : am_M) (as : List Value) (n : Nat) (t : Nat → Int32) (sub : Nat → PR) : Prop := ∀ (X : Nat × (Nat → Int32)) (d : Nat) (I A : TI) (J : TJ) (p a : Nat), D ≤ d → tpPre n p a t I A → am_T (am_CL X d M (.ref 1 :: as) (am_wd I A J)) (oE (tpPost n p a (sub p) I A J))
theorem xJ9 {a b : Int32} : xJoin (-9) a b = a * b := rfl
theorem xJ10 {a b : Int32} : xJoin (-10) a b = if b = 0 then 0 else a / b := by unfold xJoin; rw [if_neg (by decide), if_pos rfl]
theorem xJ11 {a b : Int32} : xJoin (-11) a b = if b = 0 then 0 else a - a / b * b := by unfold xJoin; rw [if_neg (by decide), if_neg (by decide), if_pos rfl]
theorem xJ12 {a b : Int32} : xJoin (-12) a b = a + b := by unfold xJoin; rw [if_neg (by decide), if_neg (by decide), if_neg (by decide), if_pos rfl]
theorem xJ13 {a b : Int32} : xJoin (-13) a b = a - b := by unfold xJoin; rw [if_neg (by decide), if_neg (by decide), if_neg (by decide), if_neg (by decide), if_pos rfl]
theorem xJ14 {a b : Int32} : xJoin (-14) a b = if a < b then 1 else 0 := by unfold xJoin; rw [if_neg (by decide), if_neg (by decide), if_neg (by decide), if_neg (by decide), if_neg (by decide), if_pos rfl]
theorem xJ15 {a b : Int32} : xJoin (-15) a b = if a = b then 1 else 0 := by unfold xJoin; rw [if_neg (by decide), if_neg (by decide), if_neg (by decide), if_neg (by decide), if_neg (by decide), if_neg (by decide), if_pos rfl]
theorem xJ16 {a b : Int32} : xJoin (-16) a b = if b < a then 1 else 0 := by unfold xJoin; rw [if_neg (by decide), if_neg (by decide), if_neg (by decide), if_neg (by decide), if_neg (by decide), if_neg (by decide), if_neg (by decide), if_pos rfl]
theorem am_bT {P : Prop} [Decidable P] {α : Type} {a b : α} (h : P) : (if P then a else b) = a := if_pos h


theorem rd_P {D n : Nat} {t : Nat → Int32} {sub : Nat → PR} {o : Int32} (hs : Rds (D + 1) mX9_readO [.int o] n t sub) : Rds (D + 2) mX9_readP [.int o] n t (pLv t n sub sgP opP) := by
  intro X d I A J p a hd hpre
  obtain ⟨k, rfl⟩ : ∃ k, d = k + 2 := ⟨d - 2, by omega⟩
  have hX := hs X (k + 1) I A J p a (by omega) hpre
  obtain ⟨h1, h2, h3, h4, hn, hp, ha⟩ := hpre
  have e10 : ((1 : Int32) = 0) = False := by decide
  -- the test
  have test : ∀ (q : Nat) (rr cc : Value) (z : Value) (I1 A1 : TI) (J1 : TJ), q ≤ n → I1 1 1 = nI n → A1 2 = t → I1 1 2 = nI q → am_EV X (k + 1) mX9_readP 18 [.ref 1, .int o, rr, cc, z] [] (am_wd I1 A1 J1) = if sgP (lc t n q) = true then am_EV X (k + 1) mX9_readP 45 [.ref 1, .int o, rr, cc, z] [] (am_wd I1 A1 J1) else am_EV X (k + 1) mX9_readP 103 [.ref 1, .int o, rr, cc, z] [] (am_wd I1 A1 J1) := by
    intro q rr cc z I1 A1 J1 hq g1 g2 g3
    simp only [sX9_readP_18, sX9_readP_19, sX9_readP_22, sX9_readP_24, sX9_readP_27, sX9_readP_28, sX9_readP_31, sX9_readP_33, sX9_readP_36, sX9_readP_37, sX9_readP_40, sX9_readP_42, wo_1, wf_1_0, wv_1_0, wf_1_1, wv_1_1, wp_1_1, wf_1_2, wv_1_2, wp_1_2, wf_1_3, wv_1_3, wf_1_4, wv_1_4, wp_1_4, wf_1_5, wv_1_5, wf_1_6, wv_1_6, wf_1_7, wv_1_7, wp_1_7, am_rt_some, am_rt_void, am_rt_none, am_rt_ite, ↓reduceIte, if_true, if_false, and_self, true_and, and_true, true_or, or_true, Bool.false_eq_true, reduceCtorEq, c_next hn (show q ≤ 120 by omega) g1 g3, g2]
    by_cases z0 : lc t n q = 42 <;> by_cases z1 : lc t n q = 47 <;> by_cases z2 : lc t n q = 37 <;> simp only [sgP, z0, z1, z2, decide_true, decide_false, Bool.or_true, Bool.true_or, Bool.or_self, Bool.or_false, Bool.false_or, Bool.false_eq_true, if_true, if_false, ite_self]
  -- the loop
  have key : ∀ (m c q b : Nat) (v : VF) (z : Value) (I1 A1 : TI) (J1 : TJ), c + m = 120 → Fr [(1, 2), (1, 4)] [3] [] I A J I1 A1 J1 → I1 1 2 = nI q → I1 1 4 = nI b → p ≤ q → q ≤ n → b + p ≤ a + q → a < b → (∀ j, j < a → A1 3 j = A 3 j) → xVal (A1 3) a b v → am_T (am_EV X (k + 1) mX9_readP 8 [.ref 1, .int o, .int 1, .int (nI c), z] [] (am_wd I1 A1 J1)) (oE (tpPost n p a (pLp t n sub sgP opP m q v) I A J)) := by
    intro m
    induction m with
    | zero =>
      intro c q b v z I1 A1 J1 hc f e1 e2 hq hqn hb hab hag hv
      have hc0 : c = 120 := by omega
      subst hc0
      simp only [sX9_readP_8, sX9_readP_9, sX9_readP_11, am_rt_some, am_rt_void, am_rt_none, am_rt_ite, ↓reduceIte, if_true, if_false, and_self, true_and, and_true, true_or, or_true, Bool.false_eq_true, reduceCtorEq, show (nI 120 < 120) = False by decide]
      simp only [sX9_readP_103, sX9_readP_104, am_rt_some, am_rt_void, am_rt_none, am_rt_ite, ↓reduceIte, if_true, if_false, and_self, true_and, and_true, true_or, or_true, Bool.false_eq_true, reduceCtorEq]
      exact am_T.re ⟨f, e1, hq, hqn, b, e2, by omega, Or.inr ⟨rfl, v, rfl, hb, hab, hag, hv⟩⟩
    | succ m ih =>
      intro c q b v z I1 A1 J1 hc f e1 e2 hq hqn hb hab hag hv
      have hc1 : I1 1 1 = nI n := (f.i 1 1 (by decide)).trans h1
      have hc2 : A1 2 = t := (f.a 2 (by decide)).trans h2
      have hlt : (nI c < 120) = True := by rw [am_nlit (x := 120) 120 rfl (show c < 2147483648 by omega) (by decide)]; exact eq_true (by omega)
      rw [sX9_readP_8]
      simp only [sX9_readP_9, sX9_readP_11, sX9_readP_14, sX9_readP_15, am_rt_some, am_rt_void, am_rt_none, am_rt_ite, ↓reduceIte, if_true, if_false, and_self, true_and, and_true, true_or, or_true, Bool.false_eq_true, reduceCtorEq, hlt, e10]
      rw [test q _ _ _ _ _ _ hqn hc1 hc2 e1]
      by_cases hsg : sgP (lc t n q) = true
      · have hqn' : q < n := by
          have hs2 := hsg
          simp only [sgP, Bool.or_eq_true, decide_eq_true_eq] at hs2
          rcases hs2 with (h | h) | h <;> exact lc_lt h (by decide)
        have hP : pLp t n sub sgP opP (m + 1) q v = (match (sub (q + 1)).2 with
          | none => ((sub (q + 1)).1, none)
          | some v2 => pLp t n sub sgP opP m (sub (q + 1)).1 (fun nm => opP (lc t n q) (v nm) (v2 nm))) := if_pos hsg
        rw [if_pos hsg, hP]
        simp only [sX9_readP_45, sX9_readP_46, sX9_readP_49, sX9_readP_51, sX9_readP_52, sX9_readP_52_r, sX9_readP_53, sX9_readP_56, sX9_readP_57, sX9_readP_58, sX9_readP_61, sX9_readP_62, sX9_readP_63, wo_1, wf_1_0, wv_1_0, wf_1_1, wv_1_1, wp_1_1, wf_1_2, wv_1_2, wp_1_2, wf_1_3, wv_1_3, wf_1_4, wv_1_4, wp_1_4, wf_1_5, wv_1_5, wf_1_6, wv_1_6, wf_1_7, wv_1_7, wp_1_7, am_rt_some, am_rt_void, am_rt_none, am_rt_ite, ↓reduceIte, if_true, if_false, and_self, true_and, and_true, true_or, or_true, Bool.false_eq_true, reduceCtorEq, c_next hn (show q ≤ 120 by omega) hc1 e1, hc2, e1, am_n1]
        refine am_T.rtE (hs X (k + 1) _ _ _ (q + 1) b (by omega) ⟨hc1, hc2, rfl, e2, hn, by omega, by omega⟩) ?_
        intro r I2 A2 J2 ⟨f2, g1, g2, g3, b2, g4, g5, g6⟩
        have f2' : Fr [(1, 2), (1, 4)] [3] [] I A J I2 A2 J2 := (f.ui (by decide)).tr f2
        have mk : ∀ (rr cc : Value) (w : am_W), am_EV X (k + 1) mX9_readP 67 [.ref 1, .int o, rr, cc, .int (lc t n q)] [] w = am_EV X (k + 1) mX9_readP 94 [.ref 1, .int o, rr, cc, .int (lc t n q)] [.int (if lc t n q = 42 then -9 else if lc t n q = 47 then -10 else -11), .ref 1] w := by
          intro rr cc w
          simp only [sX9_readP_67, sX9_readP_68, sX9_readP_70, sX9_readP_72, sX9_readP_75, sX9_readP_77, sX9_readP_80, sX9_readP_82, sX9_readP_84, sX9_readP_87, sX9_readP_89, sX9_readP_92, am_rt_some, am_rt_void, am_rt_none, am_rt_ite, ↓reduceIte, if_true, if_false, and_self, true_and, and_true, true_or, or_true, Bool.false_eq_true, reduceCtorEq]
          by_cases z0 : lc t n q = 42 <;> by_cases z1 : lc t n q = 47 <;> simp only [z0, z1, if_true, if_false, show ((42 : Int32) = 47) = False by decide, show ((42 : Int32) = 37) = False by decide, show ((47 : Int32) = 42) = False by decide, show ((47 : Int32) = 37) = False by decide, show ((37 : Int32) = 42) = False by decide, show ((37 : Int32) = 47) = False by decide]
        rcases g6 with ⟨rfl, hno⟩ | ⟨rfl, v2, hv2, k1, k2, k3, k4⟩
        · rw [sX9_readP_66, mk]
          simp only [sX9_readP_94, wo_1, wf_1_0, wv_1_0, wf_1_1, wv_1_1, wp_1_1, wf_1_2, wv_1_2, wp_1_2, wf_1_3, wv_1_3, wf_1_4, wv_1_4, wp_1_4, wf_1_5, wv_1_5, wf_1_6, wv_1_6, wf_1_7, wv_1_7, wp_1_7, am_rt_some, am_rt_void, am_rt_none, am_rt_ite, ↓reduceIte, if_true, if_false, and_self, true_and, and_true, true_or, or_true, Bool.false_eq_true, reduceCtorEq]
          refine am_T.rtU (c_make g5 g4) ?_
          intro I3 A3 J3 ⟨f3, q0, b3, q1, q2, q3⟩
          simp only [sX9_readP_97, sX9_readP_100]
          simp only [sX9_readP_8, sX9_readP_9, sX9_readP_11, sX9_readP_14, sX9_readP_15, sX9_readP_103, sX9_readP_104, am_rt_some, am_rt_void, am_rt_none, am_rt_ite, ↓reduceIte, if_true, if_false, and_self, true_and, and_true, true_or, or_true, Bool.false_eq_true, reduceCtorEq, ite_self]
          rw [hno]
          exact am_T.re ⟨f2'.tr f3, q0.trans g1, by show p ≤ (sub (q + 1)).1; omega, g3, b3, q1, q2, Or.inl ⟨rfl, rfl⟩⟩
        · rw [sX9_readP_66, mk]
          simp only [sX9_readP_94, wo_1, wf_1_0, wv_1_0, wf_1_1, wv_1_1, wp_1_1, wf_1_2, wv_1_2, wp_1_2, wf_1_3, wv_1_3, wf_1_4, wv_1_4, wp_1_4, wf_1_5, wv_1_5, wf_1_6, wv_1_6, wf_1_7, wv_1_7, wp_1_7, am_rt_some, am_rt_void, am_rt_none, am_rt_ite, ↓reduceIte, if_true, if_false, and_self, true_and, and_true, true_or, or_true, Bool.false_eq_true, reduceCtorEq]
          refine am_T.rtU (c_make g5 g4) ?_
          intro I3 A3 J3 ⟨f3, q0, b3, q1, q2, q3⟩
          obtain ⟨rfl, q4, q5⟩ := q3 (by omega)
          simp only [sX9_readP_97, sX9_readP_100, am_n1]
          rw [hv2]
          refine ih (c + 1) _ (b2 + 1) _ _ I3 A3 J3 (by omega) (f2'.tr f3) (q0.trans g1) q1 (by omega) g3 ?_ (by omega) ?_ ?_
          · have := k1
            omega
          · intro j hj
            rw [q5 j (by omega), k3 j (by omega), hag j hj]
          · refine xVal.bin (b := b) (v := v) (u := v2) (hv.congr fun j j1 j2 => ?_) (k4.congr fun j j1 j2 => q5 j j2) ?_ ?_
            · rw [q5 j (by omega), k3 j (by omega)]
            · rw [q4]
              by_cases z0 : lc t n q = 42 <;> by_cases z1 : lc t n q = 47 <;> simp only [z0, z1, if_true, if_false, show ((42 : Int32) = 47) = False by decide, show ((42 : Int32) = 37) = False by decide, show ((47 : Int32) = 42) = False by decide, show ((47 : Int32) = 37) = False by decide, show ((37 : Int32) = 42) = False by decide, show ((37 : Int32) = 47) = False by decide] <;> decide
            · intro nm
              rw [q4]
              unfold opP
              by_cases z0 : lc t n q = 42
              · simp only [z0, if_true, xJ9]
              · by_cases z1 : lc t n q = 47
                · simp only [z1, if_true, show ((47 : Int32) = 42) = False by decide, if_false, xJ10]
                · simp only [z0, z1, if_false, xJ11]
      · have hP : pLp t n sub sgP opP (m + 1) q v = (q, some v) := if_neg hsg
        rw [if_neg hsg, hP]
        simp only [sX9_readP_103, sX9_readP_104, am_rt_some, am_rt_void, am_rt_none, am_rt_ite, ↓reduceIte, if_true, if_false, and_self, true_and, and_true, true_or, or_true, Bool.false_eq_true, reduceCtorEq]
        exact am_T.re ⟨f, e1, hq, hqn, b, e2, by omega, Or.inr ⟨rfl, v, rfl, hb, hab, hag, hv⟩⟩
  simp only [eX9_readP, sX9_readP_0, sX9_readP_1, sX9_readP_2, wo_1, wf_1_0, wv_1_0, wf_1_1, wv_1_1, wp_1_1, wf_1_2, wv_1_2, wp_1_2, wf_1_3, wv_1_3, wf_1_4, wv_1_4, wp_1_4, wf_1_5, wv_1_5, wf_1_6, wv_1_6, wf_1_7, wv_1_7, wp_1_7, am_rt_some, am_rt_void, am_rt_none, am_rt_ite, ↓reduceIte, if_true, if_false, and_self, true_and, and_true, true_or, or_true, Bool.false_eq_true, reduceCtorEq]
  refine am_T.rtE hX ?_
  intro r I1 A1 J1 ⟨f, g1, g2, g3, b, g4, g5, g6⟩
  rcases g6 with ⟨rfl, hno⟩ | ⟨rfl, v, hv, k1, k2, k3, k4⟩
  · have e : pLv t n sub sgP opP p = ((sub p).1, none) := by unfold pLv; rw [hno]
    rw [e]
    simp only [sX9_readP_5, sX9_readP_6, sX9_readP_7, sX9_readP_8, sX9_readP_9, sX9_readP_11, sX9_readP_14, sX9_readP_15, sX9_readP_103, sX9_readP_104, am_rt_some, am_rt_void, am_rt_none, am_rt_ite, ↓reduceIte, if_true, if_false, and_self, true_and, and_true, true_or, or_true, Bool.false_eq_true, reduceCtorEq, ite_self]
    exact am_T.re ⟨f, g1, g2, g3, b, g4, g5, Or.inl ⟨rfl, rfl⟩⟩
  · have e : pLv t n sub sgP opP p = pLp t n sub sgP opP 120 (sub p).1 v := by unfold pLv; rw [hv]
    rw [e]
    simp only [sX9_readP_5, sX9_readP_6, sX9_readP_7]
    exact key 120 0 (sub p).1 b v _ I1 A1 J1 (by omega) f g1 g4 g2 g3 k1 k2 k3 k4


theorem rd_S {D n : Nat} {t : Nat → Int32} {sub : Nat → PR} {o : Int32} (hs : Rds (D + 1) mX9_readP [.int o] n t sub) : Rds (D + 2) mX9_readS [.int o] n t (pLv t n sub sgS opS) := by
  intro X d I A J p a hd hpre
  obtain ⟨k, rfl⟩ : ∃ k, d = k + 2 := ⟨d - 2, by omega⟩
  have hX := hs X (k + 1) I A J p a (by omega) hpre
  obtain ⟨h1, h2, h3, h4, hn, hp, ha⟩ := hpre
  have e10 : ((1 : Int32) = 0) = False := by decide
  -- the test
  have test : ∀ (q : Nat) (rr cc : Value) (z : Value) (I1 A1 : TI) (J1 : TJ), q ≤ n → I1 1 1 = nI n → A1 2 = t → I1 1 2 = nI q → am_EV X (k + 1) mX9_readS 18 [.ref 1, .int o, rr, cc, z] [] (am_wd I1 A1 J1) = if sgS (lc t n q) = true then am_EV X (k + 1) mX9_readS 36 [.ref 1, .int o, rr, cc, z] [] (am_wd I1 A1 J1) else am_EV X (k + 1) mX9_readS 82 [.ref 1, .int o, rr, cc, z] [] (am_wd I1 A1 J1) := by
    intro q rr cc z I1 A1 J1 hq g1 g2 g3
    simp only [sX9_readS_18, sX9_readS_19, sX9_readS_22, sX9_readS_24, sX9_readS_27, sX9_readS_28, sX9_readS_31, sX9_readS_33, wo_1, wf_1_0, wv_1_0, wf_1_1, wv_1_1, wp_1_1, wf_1_2, wv_1_2, wp_1_2, wf_1_3, wv_1_3, wf_1_4, wv_1_4, wp_1_4, wf_1_5, wv_1_5, wf_1_6, wv_1_6, wf_1_7, wv_1_7, wp_1_7, am_rt_some, am_rt_void, am_rt_none, am_rt_ite, ↓reduceIte, if_true, if_false, and_self, true_and, and_true, true_or, or_true, Bool.false_eq_true, reduceCtorEq, c_next hn (show q ≤ 120 by omega) g1 g3, g2]
    by_cases z0 : lc t n q = 43 <;> by_cases z1 : lc t n q = 45 <;> simp only [sgS, z0, z1, decide_true, decide_false, Bool.or_true, Bool.true_or, Bool.or_self, Bool.or_false, Bool.false_or, Bool.false_eq_true, if_true, if_false, ite_self]
  -- the loop
  have key : ∀ (m c q b : Nat) (v : VF) (z : Value) (I1 A1 : TI) (J1 : TJ), c + m = 120 → Fr [(1, 2), (1, 4)] [3] [] I A J I1 A1 J1 → I1 1 2 = nI q → I1 1 4 = nI b → p ≤ q → q ≤ n → b + p ≤ a + q → a < b → (∀ j, j < a → A1 3 j = A 3 j) → xVal (A1 3) a b v → am_T (am_EV X (k + 1) mX9_readS 8 [.ref 1, .int o, .int 1, .int (nI c), z] [] (am_wd I1 A1 J1)) (oE (tpPost n p a (pLp t n sub sgS opS m q v) I A J)) := by
    intro m
    induction m with
    | zero =>
      intro c q b v z I1 A1 J1 hc f e1 e2 hq hqn hb hab hag hv
      have hc0 : c = 120 := by omega
      subst hc0
      simp only [sX9_readS_8, sX9_readS_9, sX9_readS_11, am_rt_some, am_rt_void, am_rt_none, am_rt_ite, ↓reduceIte, if_true, if_false, and_self, true_and, and_true, true_or, or_true, Bool.false_eq_true, reduceCtorEq, show (nI 120 < 120) = False by decide]
      simp only [sX9_readS_82, sX9_readS_83, am_rt_some, am_rt_void, am_rt_none, am_rt_ite, ↓reduceIte, if_true, if_false, and_self, true_and, and_true, true_or, or_true, Bool.false_eq_true, reduceCtorEq]
      exact am_T.re ⟨f, e1, hq, hqn, b, e2, by omega, Or.inr ⟨rfl, v, rfl, hb, hab, hag, hv⟩⟩
    | succ m ih =>
      intro c q b v z I1 A1 J1 hc f e1 e2 hq hqn hb hab hag hv
      have hc1 : I1 1 1 = nI n := (f.i 1 1 (by decide)).trans h1
      have hc2 : A1 2 = t := (f.a 2 (by decide)).trans h2
      have hlt : (nI c < 120) = True := by rw [am_nlit (x := 120) 120 rfl (show c < 2147483648 by omega) (by decide)]; exact eq_true (by omega)
      rw [sX9_readS_8]
      simp only [sX9_readS_9, sX9_readS_11, sX9_readS_14, sX9_readS_15, am_rt_some, am_rt_void, am_rt_none, am_rt_ite, ↓reduceIte, if_true, if_false, and_self, true_and, and_true, true_or, or_true, Bool.false_eq_true, reduceCtorEq, hlt, e10]
      rw [test q _ _ _ _ _ _ hqn hc1 hc2 e1]
      by_cases hsg : sgS (lc t n q) = true
      · have hqn' : q < n := by
          have hs2 := hsg
          simp only [sgS, Bool.or_eq_true, decide_eq_true_eq] at hs2
          rcases hs2 with h | h <;> exact lc_lt h (by decide)
        have hP : pLp t n sub sgS opS (m + 1) q v = (match (sub (q + 1)).2 with
          | none => ((sub (q + 1)).1, none)
          | some v2 => pLp t n sub sgS opS m (sub (q + 1)).1 (fun nm => opS (lc t n q) (v nm) (v2 nm))) := if_pos hsg
        rw [if_pos hsg, hP]
        simp only [sX9_readS_36, sX9_readS_37, sX9_readS_40, sX9_readS_42, sX9_readS_43, sX9_readS_43_r, sX9_readS_44, sX9_readS_47, sX9_readS_48, sX9_readS_49, sX9_readS_52, sX9_readS_53, sX9_readS_54, wo_1, wf_1_0, wv_1_0, wf_1_1, wv_1_1, wp_1_1, wf_1_2, wv_1_2, wp_1_2, wf_1_3, wv_1_3, wf_1_4, wv_1_4, wp_1_4, wf_1_5, wv_1_5, wf_1_6, wv_1_6, wf_1_7, wv_1_7, wp_1_7, am_rt_some, am_rt_void, am_rt_none, am_rt_ite, ↓reduceIte, if_true, if_false, and_self, true_and, and_true, true_or, or_true, Bool.false_eq_true, reduceCtorEq, c_next hn (show q ≤ 120 by omega) hc1 e1, hc2, e1, am_n1]
        refine am_T.rtE (hs X (k + 1) _ _ _ (q + 1) b (by omega) ⟨hc1, hc2, rfl, e2, hn, by omega, by omega⟩) ?_
        intro r I2 A2 J2 ⟨f2, g1, g2, g3, b2, g4, g5, g6⟩
        have f2' : Fr [(1, 2), (1, 4)] [3] [] I A J I2 A2 J2 := (f.ui (by decide)).tr f2
        have mk : ∀ (rr cc : Value) (w : am_W), am_EV X (k + 1) mX9_readS 58 [.ref 1, .int o, rr, cc, .int (lc t n q)] [] w = am_EV X (k + 1) mX9_readS 73 [.ref 1, .int o, rr, cc, .int (lc t n q)] [.int (if lc t n q = 43 then -12 else -13), .ref 1] w := by
          intro rr cc w
          simp only [sX9_readS_58, sX9_readS_59, sX9_readS_61, sX9_readS_63, sX9_readS_66, sX9_readS_68, sX9_readS_71, am_rt_some, am_rt_void, am_rt_none, am_rt_ite, ↓reduceIte, if_true, if_false, and_self, true_and, and_true, true_or, or_true, Bool.false_eq_true, reduceCtorEq]
          by_cases z0 : lc t n q = 43 <;> simp only [z0, if_true, if_false, show ((43 : Int32) = 45) = False by decide, show ((45 : Int32) = 43) = False by decide]
        rcases g6 with ⟨rfl, hno⟩ | ⟨rfl, v2, hv2, k1, k2, k3, k4⟩
        · rw [sX9_readS_57, mk]
          simp only [sX9_readS_73, wo_1, wf_1_0, wv_1_0, wf_1_1, wv_1_1, wp_1_1, wf_1_2, wv_1_2, wp_1_2, wf_1_3, wv_1_3, wf_1_4, wv_1_4, wp_1_4, wf_1_5, wv_1_5, wf_1_6, wv_1_6, wf_1_7, wv_1_7, wp_1_7, am_rt_some, am_rt_void, am_rt_none, am_rt_ite, ↓reduceIte, if_true, if_false, and_self, true_and, and_true, true_or, or_true, Bool.false_eq_true, reduceCtorEq]
          refine am_T.rtU (c_make g5 g4) ?_
          intro I3 A3 J3 ⟨f3, q0, b3, q1, q2, q3⟩
          simp only [sX9_readS_76, sX9_readS_79]
          simp only [sX9_readS_8, sX9_readS_9, sX9_readS_11, sX9_readS_14, sX9_readS_15, sX9_readS_82, sX9_readS_83, am_rt_some, am_rt_void, am_rt_none, am_rt_ite, ↓reduceIte, if_true, if_false, and_self, true_and, and_true, true_or, or_true, Bool.false_eq_true, reduceCtorEq, ite_self]
          rw [hno]
          exact am_T.re ⟨f2'.tr f3, q0.trans g1, by show p ≤ (sub (q + 1)).1; omega, g3, b3, q1, q2, Or.inl ⟨rfl, rfl⟩⟩
        · rw [sX9_readS_57, mk]
          simp only [sX9_readS_73, wo_1, wf_1_0, wv_1_0, wf_1_1, wv_1_1, wp_1_1, wf_1_2, wv_1_2, wp_1_2, wf_1_3, wv_1_3, wf_1_4, wv_1_4, wp_1_4, wf_1_5, wv_1_5, wf_1_6, wv_1_6, wf_1_7, wv_1_7, wp_1_7, am_rt_some, am_rt_void, am_rt_none, am_rt_ite, ↓reduceIte, if_true, if_false, and_self, true_and, and_true, true_or, or_true, Bool.false_eq_true, reduceCtorEq]
          refine am_T.rtU (c_make g5 g4) ?_
          intro I3 A3 J3 ⟨f3, q0, b3, q1, q2, q3⟩
          obtain ⟨rfl, q4, q5⟩ := q3 (by omega)
          simp only [sX9_readS_76, sX9_readS_79, am_n1]
          rw [hv2]
          refine ih (c + 1) _ (b2 + 1) _ _ I3 A3 J3 (by omega) (f2'.tr f3) (q0.trans g1) q1 (by omega) g3 ?_ (by omega) ?_ ?_
          · have := k1
            omega
          · intro j hj
            rw [q5 j (by omega), k3 j (by omega), hag j hj]
          · refine xVal.bin (b := b) (v := v) (u := v2) (hv.congr fun j j1 j2 => ?_) (k4.congr fun j j1 j2 => q5 j j2) ?_ ?_
            · rw [q5 j (by omega), k3 j (by omega)]
            · rw [q4]
              by_cases z0 : lc t n q = 43 <;> simp only [z0, if_true, if_false, show ((43 : Int32) = 45) = False by decide, show ((45 : Int32) = 43) = False by decide] <;> decide
            · intro nm
              rw [q4]
              unfold opS
              by_cases z0 : lc t n q = 43
              · simp only [z0, if_true, xJ12]
              · simp only [z0, if_false, xJ13]
      · have hP : pLp t n sub sgS opS (m + 1) q v = (q, some v) := if_neg hsg
        rw [if_neg hsg, hP]
        simp only [sX9_readS_82, sX9_readS_83, am_rt_some, am_rt_void, am_rt_none, am_rt_ite, ↓reduceIte, if_true, if_false, and_self, true_and, and_true, true_or, or_true, Bool.false_eq_true, reduceCtorEq]
        exact am_T.re ⟨f, e1, hq, hqn, b, e2, by omega, Or.inr ⟨rfl, v, rfl, hb, hab, hag, hv⟩⟩
  simp only [eX9_readS, sX9_readS_0, sX9_readS_1, sX9_readS_2, wo_1, wf_1_0, wv_1_0, wf_1_1, wv_1_1, wp_1_1, wf_1_2, wv_1_2, wp_1_2, wf_1_3, wv_1_3, wf_1_4, wv_1_4, wp_1_4, wf_1_5, wv_1_5, wf_1_6, wv_1_6, wf_1_7, wv_1_7, wp_1_7, am_rt_some, am_rt_void, am_rt_none, am_rt_ite, ↓reduceIte, if_true, if_false, and_self, true_and, and_true, true_or, or_true, Bool.false_eq_true, reduceCtorEq]
  refine am_T.rtE hX ?_
  intro r I1 A1 J1 ⟨f, g1, g2, g3, b, g4, g5, g6⟩
  rcases g6 with ⟨rfl, hno⟩ | ⟨rfl, v, hv, k1, k2, k3, k4⟩
  · have e : pLv t n sub sgS opS p = ((sub p).1, none) := by unfold pLv; rw [hno]
    rw [e]
    simp only [sX9_readS_5, sX9_readS_6, sX9_readS_7, sX9_readS_8, sX9_readS_9, sX9_readS_11, sX9_readS_14, sX9_readS_15, sX9_readS_82, sX9_readS_83, am_rt_some, am_rt_void, am_rt_none, am_rt_ite, ↓reduceIte, if_true, if_false, and_self, true_and, and_true, true_or, or_true, Bool.false_eq_true, reduceCtorEq, ite_self]
    exact am_T.re ⟨f, g1, g2, g3, b, g4, g5, Or.inl ⟨rfl, rfl⟩⟩
  · have e : pLv t n sub sgS opS p = pLp t n sub sgS opS 120 (sub p).1 v := by unfold pLv; rw [hv]
    rw [e]
    simp only [sX9_readS_5, sX9_readS_6, sX9_readS_7]
    exact key 120 0 (sub p).1 b v _ I1 A1 J1 (by omega) f g1 g4 g2 g3 k1 k2 k3 k4


theorem rd_A {D n : Nat} {t : Nat → Int32} {sub : Nat → PR} {o : Int32} (hs : Rds (D + 1) mX9_readB [.int o] n t sub) : Rds (D + 2) mX9_readA [.int o] n t (pLv t n sub sgA opA) := by
  intro X d I A J p a hd hpre
  obtain ⟨k, rfl⟩ : ∃ k, d = k + 2 := ⟨d - 2, by omega⟩
  have hX := hs X (k + 1) I A J p a (by omega) hpre
  obtain ⟨h1, h2, h3, h4, hn, hp, ha⟩ := hpre
  have e10 : ((1 : Int32) = 0) = False := by decide
  -- the test
  have test : ∀ (q : Nat) (rr cc : Value) (I1 A1 : TI) (J1 : TJ), q ≤ n → I1 1 1 = nI n → A1 2 = t → I1 1 2 = nI q → am_EV X (k + 1) mX9_readA 18 [.ref 1, .int o, rr, cc] [] (am_wd I1 A1 J1) = if sgA (lc t n q) = true then am_EV X (k + 1) mX9_readA 27 [.ref 1, .int o, rr, cc] [] (am_wd I1 A1 J1) else am_EV X (k + 1) mX9_readA 55 [.ref 1, .int o, rr, cc] [] (am_wd I1 A1 J1) := by
    intro q rr cc I1 A1 J1 hq g1 g2 g3
    simp only [sX9_readA_18, sX9_readA_19, sX9_readA_22, sX9_readA_24, wo_1, wf_1_0, wv_1_0, wf_1_1, wv_1_1, wp_1_1, wf_1_2, wv_1_2, wp_1_2, wf_1_3, wv_1_3, wf_1_4, wv_1_4, wp_1_4, wf_1_5, wv_1_5, wf_1_6, wv_1_6, wf_1_7, wv_1_7, wp_1_7, am_rt_some, am_rt_void, am_rt_none, am_rt_ite, ↓reduceIte, if_true, if_false, and_self, true_and, and_true, true_or, or_true, Bool.false_eq_true, reduceCtorEq, c_next hn (show q ≤ 120 by omega) g1 g3, g2]
    by_cases z0 : lc t n q = 38 <;> simp only [sgA, z0, decide_true, decide_false, Bool.or_true, Bool.true_or, Bool.or_self, Bool.or_false, Bool.false_or, Bool.false_eq_true, if_true, if_false, ite_self]
  -- the loop
  have key : ∀ (m c q b : Nat) (v : VF) (I1 A1 : TI) (J1 : TJ), c + m = 120 → Fr [(1, 2), (1, 4)] [3] [] I A J I1 A1 J1 → I1 1 2 = nI q → I1 1 4 = nI b → p ≤ q → q ≤ n → b + p ≤ a + q → a < b → (∀ j, j < a → A1 3 j = A 3 j) → xVal (A1 3) a b v → am_T (am_EV X (k + 1) mX9_readA 8 [.ref 1, .int o, .int 1, .int (nI c)] [] (am_wd I1 A1 J1)) (oE (tpPost n p a (pLp t n sub sgA opA m q v) I A J)) := by
    intro m
    induction m with
    | zero =>
      intro c q b v I1 A1 J1 hc f e1 e2 hq hqn hb hab hag hv
      have hc0 : c = 120 := by omega
      subst hc0
      simp only [sX9_readA_8, sX9_readA_9, sX9_readA_11, am_rt_some, am_rt_void, am_rt_none, am_rt_ite, ↓reduceIte, if_true, if_false, and_self, true_and, and_true, true_or, or_true, Bool.false_eq_true, reduceCtorEq, show (nI 120 < 120) = False by decide]
      simp only [sX9_readA_55, sX9_readA_56, am_rt_some, am_rt_void, am_rt_none, am_rt_ite, ↓reduceIte, if_true, if_false, and_self, true_and, and_true, true_or, or_true, Bool.false_eq_true, reduceCtorEq]
      exact am_T.re ⟨f, e1, hq, hqn, b, e2, by omega, Or.inr ⟨rfl, v, rfl, hb, hab, hag, hv⟩⟩
    | succ m ih =>
      intro c q b v I1 A1 J1 hc f e1 e2 hq hqn hb hab hag hv
      have hc1 : I1 1 1 = nI n := (f.i 1 1 (by decide)).trans h1
      have hc2 : A1 2 = t := (f.a 2 (by decide)).trans h2
      have hlt : (nI c < 120) = True := by rw [am_nlit (x := 120) 120 rfl (show c < 2147483648 by omega) (by decide)]; exact eq_true (by omega)
      rw [sX9_readA_8]
      simp only [sX9_readA_9, sX9_readA_11, sX9_readA_14, sX9_readA_15, am_rt_some, am_rt_void, am_rt_none, am_rt_ite, ↓reduceIte, if_true, if_false, and_self, true_and, and_true, true_or, or_true, Bool.false_eq_true, reduceCtorEq, hlt, e10]
      rw [test q _ _ _ _ _ hqn hc1 hc2 e1]
      by_cases hsg : sgA (lc t n q) = true
      · have hqn' : q < n := by
          have hs2 := hsg
          simp only [sgA, Bool.or_eq_true, decide_eq_true_eq] at hs2
          exact lc_lt hs2 (by decide)
        have hP : pLp t n sub sgA opA (m + 1) q v = (match (sub (q + 1)).2 with
          | none => ((sub (q + 1)).1, none)
          | some v2 => pLp t n sub sgA opA m (sub (q + 1)).1 (fun nm => opA (lc t n q) (v nm) (v2 nm))) := if_pos hsg
        rw [if_pos hsg, hP]
        simp only [sX9_readA_27, sX9_readA_28, sX9_readA_28_r, sX9_readA_29, sX9_readA_32, sX9_readA_33, sX9_readA_34, sX9_readA_37, sX9_readA_38, sX9_readA_39, wo_1, wf_1_0, wv_1_0, wf_1_1, wv_1_1, wp_1_1, wf_1_2, wv_1_2, wp_1_2, wf_1_3, wv_1_3, wf_1_4, wv_1_4, wp_1_4, wf_1_5, wv_1_5, wf_1_6, wv_1_6, wf_1_7, wv_1_7, wp_1_7, am_rt_some, am_rt_void, am_rt_none, am_rt_ite, ↓reduceIte, if_true, if_false, and_self, true_and, and_true, true_or, or_true, Bool.false_eq_true, reduceCtorEq, c_next hn (show q ≤ 120 by omega) hc1 e1, hc2, e1, am_n1]
        refine am_T.rtE (hs X (k + 1) _ _ _ (q + 1) b (by omega) ⟨hc1, hc2, rfl, e2, hn, by omega, by omega⟩) ?_
        intro r I2 A2 J2 ⟨f2, g1, g2, g3, b2, g4, g5, g6⟩
        have f2' : Fr [(1, 2), (1, 4)] [3] [] I A J I2 A2 J2 := (f.ui (by decide)).tr f2
        have mk : ∀ (rr cc : Value) (w : am_W), am_EV X (k + 1) mX9_readA 43 [.ref 1, .int o, rr, cc] [] w = am_EV X (k + 1) mX9_readA 46 [.ref 1, .int o, rr, cc] [.int (-17), .ref 1] w := by
          intro rr cc w
          simp only [sX9_readA_43, sX9_readA_44, am_rt_some, am_rt_void, am_rt_none, am_rt_ite, ↓reduceIte, if_true, if_false, and_self, true_and, and_true, true_or, or_true, Bool.false_eq_true, reduceCtorEq]
          try rfl
        rcases g6 with ⟨rfl, hno⟩ | ⟨rfl, v2, hv2, k1, k2, k3, k4⟩
        · rw [sX9_readA_42, mk]
          simp only [sX9_readA_46, wo_1, wf_1_0, wv_1_0, wf_1_1, wv_1_1, wp_1_1, wf_1_2, wv_1_2, wp_1_2, wf_1_3, wv_1_3, wf_1_4, wv_1_4, wp_1_4, wf_1_5, wv_1_5, wf_1_6, wv_1_6, wf_1_7, wv_1_7, wp_1_7, am_rt_some, am_rt_void, am_rt_none, am_rt_ite, ↓reduceIte, if_true, if_false, and_self, true_and, and_true, true_or, or_true, Bool.false_eq_true, reduceCtorEq]
          refine am_T.rtU (c_make g5 g4) ?_
          intro I3 A3 J3 ⟨f3, q0, b3, q1, q2, q3⟩
          simp only [sX9_readA_49, sX9_readA_52]
          simp only [sX9_readA_8, sX9_readA_9, sX9_readA_11, sX9_readA_14, sX9_readA_15, sX9_readA_55, sX9_readA_56, am_rt_some, am_rt_void, am_rt_none, am_rt_ite, ↓reduceIte, if_true, if_false, and_self, true_and, and_true, true_or, or_true, Bool.false_eq_true, reduceCtorEq, ite_self]
          rw [hno]
          exact am_T.re ⟨f2'.tr f3, q0.trans g1, by show p ≤ (sub (q + 1)).1; omega, g3, b3, q1, q2, Or.inl ⟨rfl, rfl⟩⟩
        · rw [sX9_readA_42, mk]
          simp only [sX9_readA_46, wo_1, wf_1_0, wv_1_0, wf_1_1, wv_1_1, wp_1_1, wf_1_2, wv_1_2, wp_1_2, wf_1_3, wv_1_3, wf_1_4, wv_1_4, wp_1_4, wf_1_5, wv_1_5, wf_1_6, wv_1_6, wf_1_7, wv_1_7, wp_1_7, am_rt_some, am_rt_void, am_rt_none, am_rt_ite, ↓reduceIte, if_true, if_false, and_self, true_and, and_true, true_or, or_true, Bool.false_eq_true, reduceCtorEq]
          refine am_T.rtU (c_make g5 g4) ?_
          intro I3 A3 J3 ⟨f3, q0, b3, q1, q2, q3⟩
          obtain ⟨rfl, q4, q5⟩ := q3 (by omega)
          simp only [sX9_readA_49, sX9_readA_52, am_n1]
          rw [hv2]
          refine ih (c + 1) _ (b2 + 1) _ I3 A3 J3 (by omega) (f2'.tr f3) (q0.trans g1) q1 (by omega) g3 ?_ (by omega) ?_ ?_
          · have := k1
            omega
          · intro j hj
            rw [q5 j (by omega), k3 j (by omega), hag j hj]
          · refine xVal.bin (b := b) (v := v) (u := v2) (hv.congr fun j j1 j2 => ?_) (k4.congr fun j j1 j2 => q5 j j2) ?_ ?_
            · rw [q5 j (by omega), k3 j (by omega)]
            · rw [q4]
              decide
            · intro nm
              rw [q4]
              rfl
      · have hP : pLp t n sub sgA opA (m + 1) q v = (q, some v) := if_neg hsg
        rw [if_neg hsg, hP]
        simp only [sX9_readA_55, sX9_readA_56, am_rt_some, am_rt_void, am_rt_none, am_rt_ite, ↓reduceIte, if_true, if_false, and_self, true_and, and_true, true_or, or_true, Bool.false_eq_true, reduceCtorEq]
        exact am_T.re ⟨f, e1, hq, hqn, b, e2, by omega, Or.inr ⟨rfl, v, rfl, hb, hab, hag, hv⟩⟩
  simp only [eX9_readA, sX9_readA_0, sX9_readA_1, sX9_readA_2, wo_1, wf_1_0, wv_1_0, wf_1_1, wv_1_1, wp_1_1, wf_1_2, wv_1_2, wp_1_2, wf_1_3, wv_1_3, wf_1_4, wv_1_4, wp_1_4, wf_1_5, wv_1_5, wf_1_6, wv_1_6, wf_1_7, wv_1_7, wp_1_7, am_rt_some, am_rt_void, am_rt_none, am_rt_ite, ↓reduceIte, if_true, if_false, and_self, true_and, and_true, true_or, or_true, Bool.false_eq_true, reduceCtorEq]
  refine am_T.rtE hX ?_
  intro r I1 A1 J1 ⟨f, g1, g2, g3, b, g4, g5, g6⟩
  rcases g6 with ⟨rfl, hno⟩ | ⟨rfl, v, hv, k1, k2, k3, k4⟩
  · have e : pLv t n sub sgA opA p = ((sub p).1, none) := by unfold pLv; rw [hno]
    rw [e]
    simp only [sX9_readA_5, sX9_readA_6, sX9_readA_7, sX9_readA_8, sX9_readA_9, sX9_readA_11, sX9_readA_14, sX9_readA_15, sX9_readA_55, sX9_readA_56, am_rt_some, am_rt_void, am_rt_none, am_rt_ite, ↓reduceIte, if_true, if_false, and_self, true_and, and_true, true_or, or_true, Bool.false_eq_true, reduceCtorEq, ite_self]
    exact am_T.re ⟨f, g1, g2, g3, b, g4, g5, Or.inl ⟨rfl, rfl⟩⟩
  · have e : pLv t n sub sgA opA p = pLp t n sub sgA opA 120 (sub p).1 v := by unfold pLv; rw [hv]
    rw [e]
    simp only [sX9_readA_5, sX9_readA_6, sX9_readA_7]
    exact key 120 0 (sub p).1 b v I1 A1 J1 (by omega) f g1 g4 g2 g3 k1 k2 k3 k4


theorem rd_E {D n : Nat} {t : Nat → Int32} {sub : Nat → PR} {o : Int32} (hs : Rds (D + 1) mX9_readA [.int o] n t sub) : Rds (D + 2) mX9_readE [.int o] n t (pLv t n sub sgE opE) := by
  intro X d I A J p a hd hpre
  obtain ⟨k, rfl⟩ : ∃ k, d = k + 2 := ⟨d - 2, by omega⟩
  have hX := hs X (k + 1) I A J p a (by omega) hpre
  obtain ⟨h1, h2, h3, h4, hn, hp, ha⟩ := hpre
  have e10 : ((1 : Int32) = 0) = False := by decide
  -- the test
  have test : ∀ (q : Nat) (rr cc : Value) (I1 A1 : TI) (J1 : TJ), q ≤ n → I1 1 1 = nI n → A1 2 = t → I1 1 2 = nI q → am_EV X (k + 1) mX9_readE 18 [.ref 1, .int o, rr, cc] [] (am_wd I1 A1 J1) = if sgE (lc t n q) = true then am_EV X (k + 1) mX9_readE 27 [.ref 1, .int o, rr, cc] [] (am_wd I1 A1 J1) else am_EV X (k + 1) mX9_readE 55 [.ref 1, .int o, rr, cc] [] (am_wd I1 A1 J1) := by
    intro q rr cc I1 A1 J1 hq g1 g2 g3
    simp only [sX9_readE_18, sX9_readE_19, sX9_readE_22, sX9_readE_24, wo_1, wf_1_0, wv_1_0, wf_1_1, wv_1_1, wp_1_1, wf_1_2, wv_1_2, wp_1_2, wf_1_3, wv_1_3, wf_1_4, wv_1_4, wp_1_4, wf_1_5, wv_1_5, wf_1_6, wv_1_6, wf_1_7, wv_1_7, wp_1_7, am_rt_some, am_rt_void, am_rt_none, am_rt_ite, ↓reduceIte, if_true, if_false, and_self, true_and, and_true, true_or, or_true, Bool.false_eq_true, reduceCtorEq, c_next hn (show q ≤ 120 by omega) g1 g3, g2]
    by_cases z0 : lc t n q = 124 <;> simp only [sgE, z0, decide_true, decide_false, Bool.or_true, Bool.true_or, Bool.or_self, Bool.or_false, Bool.false_or, Bool.false_eq_true, if_true, if_false, ite_self]
  -- the loop
  have key : ∀ (m c q b : Nat) (v : VF) (I1 A1 : TI) (J1 : TJ), c + m = 120 → Fr [(1, 2), (1, 4)] [3] [] I A J I1 A1 J1 → I1 1 2 = nI q → I1 1 4 = nI b → p ≤ q → q ≤ n → b + p ≤ a + q → a < b → (∀ j, j < a → A1 3 j = A 3 j) → xVal (A1 3) a b v → am_T (am_EV X (k + 1) mX9_readE 8 [.ref 1, .int o, .int 1, .int (nI c)] [] (am_wd I1 A1 J1)) (oE (tpPost n p a (pLp t n sub sgE opE m q v) I A J)) := by
    intro m
    induction m with
    | zero =>
      intro c q b v I1 A1 J1 hc f e1 e2 hq hqn hb hab hag hv
      have hc0 : c = 120 := by omega
      subst hc0
      simp only [sX9_readE_8, sX9_readE_9, sX9_readE_11, am_rt_some, am_rt_void, am_rt_none, am_rt_ite, ↓reduceIte, if_true, if_false, and_self, true_and, and_true, true_or, or_true, Bool.false_eq_true, reduceCtorEq, show (nI 120 < 120) = False by decide]
      simp only [sX9_readE_55, sX9_readE_56, am_rt_some, am_rt_void, am_rt_none, am_rt_ite, ↓reduceIte, if_true, if_false, and_self, true_and, and_true, true_or, or_true, Bool.false_eq_true, reduceCtorEq]
      exact am_T.re ⟨f, e1, hq, hqn, b, e2, by omega, Or.inr ⟨rfl, v, rfl, hb, hab, hag, hv⟩⟩
    | succ m ih =>
      intro c q b v I1 A1 J1 hc f e1 e2 hq hqn hb hab hag hv
      have hc1 : I1 1 1 = nI n := (f.i 1 1 (by decide)).trans h1
      have hc2 : A1 2 = t := (f.a 2 (by decide)).trans h2
      have hlt : (nI c < 120) = True := by rw [am_nlit (x := 120) 120 rfl (show c < 2147483648 by omega) (by decide)]; exact eq_true (by omega)
      rw [sX9_readE_8]
      simp only [sX9_readE_9, sX9_readE_11, sX9_readE_14, sX9_readE_15, am_rt_some, am_rt_void, am_rt_none, am_rt_ite, ↓reduceIte, if_true, if_false, and_self, true_and, and_true, true_or, or_true, Bool.false_eq_true, reduceCtorEq, hlt, e10]
      rw [test q _ _ _ _ _ hqn hc1 hc2 e1]
      by_cases hsg : sgE (lc t n q) = true
      · have hqn' : q < n := by
          have hs2 := hsg
          simp only [sgE, Bool.or_eq_true, decide_eq_true_eq] at hs2
          exact lc_lt hs2 (by decide)
        have hP : pLp t n sub sgE opE (m + 1) q v = (match (sub (q + 1)).2 with
          | none => ((sub (q + 1)).1, none)
          | some v2 => pLp t n sub sgE opE m (sub (q + 1)).1 (fun nm => opE (lc t n q) (v nm) (v2 nm))) := if_pos hsg
        rw [if_pos hsg, hP]
        simp only [sX9_readE_27, sX9_readE_28, sX9_readE_28_r, sX9_readE_29, sX9_readE_32, sX9_readE_33, sX9_readE_34, sX9_readE_37, sX9_readE_38, sX9_readE_39, wo_1, wf_1_0, wv_1_0, wf_1_1, wv_1_1, wp_1_1, wf_1_2, wv_1_2, wp_1_2, wf_1_3, wv_1_3, wf_1_4, wv_1_4, wp_1_4, wf_1_5, wv_1_5, wf_1_6, wv_1_6, wf_1_7, wv_1_7, wp_1_7, am_rt_some, am_rt_void, am_rt_none, am_rt_ite, ↓reduceIte, if_true, if_false, and_self, true_and, and_true, true_or, or_true, Bool.false_eq_true, reduceCtorEq, c_next hn (show q ≤ 120 by omega) hc1 e1, hc2, e1, am_n1]
        refine am_T.rtE (hs X (k + 1) _ _ _ (q + 1) b (by omega) ⟨hc1, hc2, rfl, e2, hn, by omega, by omega⟩) ?_
        intro r I2 A2 J2 ⟨f2, g1, g2, g3, b2, g4, g5, g6⟩
        have f2' : Fr [(1, 2), (1, 4)] [3] [] I A J I2 A2 J2 := (f.ui (by decide)).tr f2
        have mk : ∀ (rr cc : Value) (w : am_W), am_EV X (k + 1) mX9_readE 43 [.ref 1, .int o, rr, cc] [] w = am_EV X (k + 1) mX9_readE 46 [.ref 1, .int o, rr, cc] [.int (-18), .ref 1] w := by
          intro rr cc w
          simp only [sX9_readE_43, sX9_readE_44, am_rt_some, am_rt_void, am_rt_none, am_rt_ite, ↓reduceIte, if_true, if_false, and_self, true_and, and_true, true_or, or_true, Bool.false_eq_true, reduceCtorEq]
          try rfl
        rcases g6 with ⟨rfl, hno⟩ | ⟨rfl, v2, hv2, k1, k2, k3, k4⟩
        · rw [sX9_readE_42, mk]
          simp only [sX9_readE_46, wo_1, wf_1_0, wv_1_0, wf_1_1, wv_1_1, wp_1_1, wf_1_2, wv_1_2, wp_1_2, wf_1_3, wv_1_3, wf_1_4, wv_1_4, wp_1_4, wf_1_5, wv_1_5, wf_1_6, wv_1_6, wf_1_7, wv_1_7, wp_1_7, am_rt_some, am_rt_void, am_rt_none, am_rt_ite, ↓reduceIte, if_true, if_false, and_self, true_and, and_true, true_or, or_true, Bool.false_eq_true, reduceCtorEq]
          refine am_T.rtU (c_make g5 g4) ?_
          intro I3 A3 J3 ⟨f3, q0, b3, q1, q2, q3⟩
          simp only [sX9_readE_49, sX9_readE_52]
          simp only [sX9_readE_8, sX9_readE_9, sX9_readE_11, sX9_readE_14, sX9_readE_15, sX9_readE_55, sX9_readE_56, am_rt_some, am_rt_void, am_rt_none, am_rt_ite, ↓reduceIte, if_true, if_false, and_self, true_and, and_true, true_or, or_true, Bool.false_eq_true, reduceCtorEq, ite_self]
          rw [hno]
          exact am_T.re ⟨f2'.tr f3, q0.trans g1, by show p ≤ (sub (q + 1)).1; omega, g3, b3, q1, q2, Or.inl ⟨rfl, rfl⟩⟩
        · rw [sX9_readE_42, mk]
          simp only [sX9_readE_46, wo_1, wf_1_0, wv_1_0, wf_1_1, wv_1_1, wp_1_1, wf_1_2, wv_1_2, wp_1_2, wf_1_3, wv_1_3, wf_1_4, wv_1_4, wp_1_4, wf_1_5, wv_1_5, wf_1_6, wv_1_6, wf_1_7, wv_1_7, wp_1_7, am_rt_some, am_rt_void, am_rt_none, am_rt_ite, ↓reduceIte, if_true, if_false, and_self, true_and, and_true, true_or, or_true, Bool.false_eq_true, reduceCtorEq]
          refine am_T.rtU (c_make g5 g4) ?_
          intro I3 A3 J3 ⟨f3, q0, b3, q1, q2, q3⟩
          obtain ⟨rfl, q4, q5⟩ := q3 (by omega)
          simp only [sX9_readE_49, sX9_readE_52, am_n1]
          rw [hv2]
          refine ih (c + 1) _ (b2 + 1) _ I3 A3 J3 (by omega) (f2'.tr f3) (q0.trans g1) q1 (by omega) g3 ?_ (by omega) ?_ ?_
          · have := k1
            omega
          · intro j hj
            rw [q5 j (by omega), k3 j (by omega), hag j hj]
          · refine xVal.bin (b := b) (v := v) (u := v2) (hv.congr fun j j1 j2 => ?_) (k4.congr fun j j1 j2 => q5 j j2) ?_ ?_
            · rw [q5 j (by omega), k3 j (by omega)]
            · rw [q4]
              decide
            · intro nm
              rw [q4]
              rfl
      · have hP : pLp t n sub sgE opE (m + 1) q v = (q, some v) := if_neg hsg
        rw [if_neg hsg, hP]
        simp only [sX9_readE_55, sX9_readE_56, am_rt_some, am_rt_void, am_rt_none, am_rt_ite, ↓reduceIte, if_true, if_false, and_self, true_and, and_true, true_or, or_true, Bool.false_eq_true, reduceCtorEq]
        exact am_T.re ⟨f, e1, hq, hqn, b, e2, by omega, Or.inr ⟨rfl, v, rfl, hb, hab, hag, hv⟩⟩
  simp only [eX9_readE, sX9_readE_0, sX9_readE_1, sX9_readE_2, wo_1, wf_1_0, wv_1_0, wf_1_1, wv_1_1, wp_1_1, wf_1_2, wv_1_2, wp_1_2, wf_1_3, wv_1_3, wf_1_4, wv_1_4, wp_1_4, wf_1_5, wv_1_5, wf_1_6, wv_1_6, wf_1_7, wv_1_7, wp_1_7, am_rt_some, am_rt_void, am_rt_none, am_rt_ite, ↓reduceIte, if_true, if_false, and_self, true_and, and_true, true_or, or_true, Bool.false_eq_true, reduceCtorEq]
  refine am_T.rtE hX ?_
  intro r I1 A1 J1 ⟨f, g1, g2, g3, b, g4, g5, g6⟩
  rcases g6 with ⟨rfl, hno⟩ | ⟨rfl, v, hv, k1, k2, k3, k4⟩
  · have e : pLv t n sub sgE opE p = ((sub p).1, none) := by unfold pLv; rw [hno]
    rw [e]
    simp only [sX9_readE_5, sX9_readE_6, sX9_readE_7, sX9_readE_8, sX9_readE_9, sX9_readE_11, sX9_readE_14, sX9_readE_15, sX9_readE_55, sX9_readE_56, am_rt_some, am_rt_void, am_rt_none, am_rt_ite, ↓reduceIte, if_true, if_false, and_self, true_and, and_true, true_or, or_true, Bool.false_eq_true, reduceCtorEq, ite_self]
    exact am_T.re ⟨f, g1, g2, g3, b, g4, g5, Or.inl ⟨rfl, rfl⟩⟩
  · have e : pLv t n sub sgE opE p = pLp t n sub sgE opE 120 (sub p).1 v := by unfold pLv; rw [hv]
    rw [e]
    simp only [sX9_readE_5, sX9_readE_6, sX9_readE_7]
    exact key 120 0 (sub p).1 b v I1 A1 J1 (by omega) f g1 g4 g2 g3 k1 k2 k3 k4

end TP

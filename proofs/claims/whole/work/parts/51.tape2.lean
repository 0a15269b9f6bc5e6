/-! THE TAPE: from a number to a text -/
section TQ
variable {X : Nat × (Nat → Int32)} {d : Nat} {I A : TI} {J : TJ} {w : am_W}
theorem Rds.up {D D' n : Nat} {M : am_M} {as : List Value} {t : Nat → Int32} {sub : Nat → PR} (h : Rds D M as n t sub) (e : D ≤ D') : Rds D' M as n t sub := fun X d I A J p a hd => h X d I A J p a (Nat.le_trans e hd)
def pBs (t : Nat → Int32) (n : Nat) (sub : Nat → PR) (p : Nat) : PR := match (sub p).2 with
  | none => ((sub p).1, none)
  | some v => if sgB (lc t n (sub p).1) = true then (match (sub ((sub p).1 + 1)).2 with
    | none => ((sub ((sub p).1 + 1)).1, none)
    | some v2 => ((sub ((sub p).1 + 1)).1, some (fun nm => opB (lc t n (sub p).1) (v nm) (v2 nm)))) else ((sub p).1, some v)
theorem pBf_eq (t : Nat → Int32) (n : Nat) (o : Nat → PR) : pBf t n o = pBs t n (pSf t n o) := rfl
theorem rd_B {D n : Nat} {t : Nat → Int32} {sub : Nat → PR} {o : Int32} (hs : Rds (D + 1) mX9_readS [.int o] n t sub) : Rds (D + 2) mX9_readB [.int o] n t (pBs t n sub) := by
  intro X d I A J p a hd hpre
  obtain ⟨k, rfl⟩ : ∃ k, d = k + 2 := ⟨d - 2, by omega⟩
  have hX := hs X (k + 1) I A J p a (by omega) hpre
  obtain ⟨h1, h2, h3, h4, hn, hp, ha⟩ := hpre
  have e10 : ((1 : Int32) = 0) = False := by decide
  simp only [eX9_readB, sX9_readB_0, sX9_readB_1, sX9_readB_2, wo_1, wf_1_0, wv_1_0, wf_1_1, wv_1_1, wp_1_1, wf_1_2, wv_1_2, wp_1_2, wf_1_3, wv_1_3, wf_1_4, wv_1_4, wp_1_4, wf_1_5, wv_1_5, wf_1_6, wv_1_6, wf_1_7, wv_1_7, wp_1_7, am_rt_some, am_rt_void, am_rt_none, am_rt_ite, ↓reduceIte, if_true, if_false, and_self, true_and, and_true, true_or, or_true, Bool.false_eq_true, reduceCtorEq]
  refine am_T.rtE hX ?_
  intro r I1 A1 J1 ⟨f, g1, g2, g3, b, g4, g5, g6⟩
  rcases g6 with ⟨rfl, hno⟩ | ⟨rfl, v, hv, k1, k2, k3, k4⟩
  · have e : pBs t n sub p = ((sub p).1, none) := by unfold pBs; rw [hno]
    rw [e]
    simp only [sX9_readB_5, sX9_readB_8, sX9_readB_9, am_rt_some, am_rt_void, am_rt_none, am_rt_ite, ↓reduceIte, if_true, if_false, and_self, true_and, and_true, true_or, or_true, Bool.false_eq_true, reduceCtorEq]
    exact am_T.re ⟨f, g1, g2, g3, b, g4, g5, Or.inl ⟨rfl, rfl⟩⟩
  · have hc1 : I1 1 1 = nI n := (f.i 1 1 (by decide)).trans h1
    have hc2 : A1 2 = t := (f.a 2 (by decide)).trans h2
    simp only [sX9_readB_5, sX9_readB_8, sX9_readB_9, sX9_readB_10, sX9_readB_11, sX9_readB_14, sX9_readB_15, sX9_readB_16, sX9_readB_18, wo_1, wf_1_0, wv_1_0, wf_1_1, wv_1_1, wp_1_1, wf_1_2, wv_1_2, wp_1_2, wf_1_3, wv_1_3, wf_1_4, wv_1_4, wp_1_4, wf_1_5, wv_1_5, wf_1_6, wv_1_6, wf_1_7, wv_1_7, wp_1_7, am_rt_some, am_rt_void, am_rt_none, am_rt_ite, ↓reduceIte, if_true, if_false, and_self, true_and, and_true, true_or, or_true, Bool.false_eq_true, reduceCtorEq, e10, c_next hn (show (sub p).1 ≤ 120 by omega) hc1 g1, hc2]
    have test : ∀ (c : Int32) (w : am_W), (if c = 60 then am_EV X (k + 1) mX9_readB 35 [.ref 1, .int o, .int c] [] w else am_EV X (k + 1) mX9_readB 21 [.ref 1, .int o, .int c] [] w) = if sgB c = true then am_EV X (k + 1) mX9_readB 35 [.ref 1, .int o, .int c] [] w else am_EV X (k + 1) mX9_readB 33 [.ref 1, .int o, .int c] [] w := by
      intro c w
      simp only [sX9_readB_21, sX9_readB_22, sX9_readB_24, sX9_readB_27, sX9_readB_28, sX9_readB_30]
      by_cases z0 : c = 60 <;> by_cases z1 : c = 61 <;> by_cases z2 : c = 62 <;> simp only [sgB, z0, z1, z2, decide_true, decide_false, Bool.or_true, Bool.true_or, Bool.or_self, Bool.or_false, Bool.false_or, Bool.false_eq_true, if_true, if_false, ite_self]
    rw [test]
    by_cases hsg : sgB (lc t n (sub p).1) = true
    · have hqn' : (sub p).1 < n := by
        have hs2 := hsg
        simp only [sgB, Bool.or_eq_true, decide_eq_true_eq] at hs2
        rcases hs2 with (h | h) | h <;> exact lc_lt h (by decide)
      have hP : pBs t n sub p = (match (sub ((sub p).1 + 1)).2 with
          | none => ((sub ((sub p).1 + 1)).1, none)
          | some v2 => ((sub ((sub p).1 + 1)).1, some (fun nm => opB (lc t n (sub p).1) (v nm) (v2 nm)))) := by
        unfold pBs
        rw [hv]
        exact if_pos hsg
      rw [if_pos hsg, hP]
      simp only [sX9_readB_35, sX9_readB_36, sX9_readB_36_r, sX9_readB_37, sX9_readB_40, sX9_readB_41, sX9_readB_42, sX9_readB_45, sX9_readB_46, sX9_readB_47, wo_1, wf_1_0, wv_1_0, wf_1_1, wv_1_1, wp_1_1, wf_1_2, wv_1_2, wp_1_2, wf_1_3, wv_1_3, wf_1_4, wv_1_4, wp_1_4, wf_1_5, wv_1_5, wf_1_6, wv_1_6, wf_1_7, wv_1_7, wp_1_7, am_rt_some, am_rt_void, am_rt_none, am_rt_ite, ↓reduceIte, if_true, if_false, and_self, true_and, and_true, true_or, or_true, Bool.false_eq_true, reduceCtorEq, g1, am_n1]
      refine am_T.rtE (hs X (k + 1) _ _ _ ((sub p).1 + 1) b (by omega) ⟨hc1, hc2, rfl, g4, hn, by omega, by omega⟩) ?_
      intro r I2 A2 J2 ⟨f2, q1, q2, q3, b2, q4, q5, q6⟩
      have f2' : Fr [(1, 2), (1, 4)] [3] [] I A J I2 A2 J2 := (f.ui (by decide)).tr f2
      rcases q6 with ⟨rfl, hno⟩ | ⟨rfl, v2, hv2, j1, j2, j3, j4⟩
      · simp only [sX9_readB_50, sX9_readB_53, sX9_readB_54, am_rt_some, am_rt_void, am_rt_none, am_rt_ite, ↓reduceIte, if_true, if_false, and_self, true_and, and_true, true_or, or_true, Bool.false_eq_true, reduceCtorEq]
        rw [hno]
        exact am_T.re ⟨f2', q1, by show p ≤ (sub ((sub p).1 + 1)).1; omega, q3, b2, q4, q5, Or.inl ⟨rfl, rfl⟩⟩
      · have mk : ∀ (c : Int32) (w : am_W), am_EV X (k + 1) mX9_readB 55 [.ref 1, .int o, .int c] [] w = am_EV X (k + 1) mX9_readB 80 [.ref 1, .int o, .int c] [.int (if c = 60 then -14 else if c = 61 then -15 else -16), .ref 1] w := by
          intro c w
          simp only [sX9_readB_55, sX9_readB_56, sX9_readB_57, sX9_readB_59, sX9_readB_62, sX9_readB_64, sX9_readB_67, sX9_readB_68, sX9_readB_70, sX9_readB_73, sX9_readB_75, sX9_readB_78, am_rt_some, am_rt_void, am_rt_none, am_rt_ite, ↓reduceIte, if_true, if_false, and_self, true_and, and_true, true_or, or_true, Bool.false_eq_true, reduceCtorEq]
          by_cases z0 : c = 60 <;> by_cases z1 : c = 61 <;> simp only [z0, z1, if_true, if_false, show ((60 : Int32) = 61) = False by decide, show ((61 : Int32) = 60) = False by decide]
        rw [sX9_readB_50]
        simp only [e10, if_false]
        rw [mk]
        simp only [sX9_readB_80, wo_1, wf_1_0, wv_1_0, wf_1_1, wv_1_1, wp_1_1, wf_1_2, wv_1_2, wp_1_2, wf_1_3, wv_1_3, wf_1_4, wv_1_4, wp_1_4, wf_1_5, wv_1_5, wf_1_6, wv_1_6, wf_1_7, wv_1_7, wp_1_7, am_rt_some, am_rt_void, am_rt_none, am_rt_ite, ↓reduceIte, if_true, if_false, and_self, true_and, and_true, true_or, or_true, Bool.false_eq_true, reduceCtorEq]
        refine am_T.rtU (c_make q5 q4) ?_
        intro I3 A3 J3 ⟨f3, y0, b3, y1, y2, y3⟩
        obtain ⟨rfl, y4, y5⟩ := y3 (by omega)
        simp only [sX9_readB_83, sX9_readB_84, am_rt_some, am_rt_void, am_rt_none, am_rt_ite, ↓reduceIte, if_true, if_false, and_self, true_and, and_true, true_or, or_true, Bool.false_eq_true, reduceCtorEq]
        rw [hv2]
        refine am_T.re ⟨f2'.tr f3, y0.trans q1, by show p ≤ (sub ((sub p).1 + 1)).1; omega, q3, b2 + 1, y1, y2, Or.inr ⟨rfl, _, rfl, ?_, by omega, ?_, ?_⟩⟩
        · show b2 + 1 + p ≤ a + (sub ((sub p).1 + 1)).1
          omega
        · intro j hj
          rw [y5 j (by omega), j3 j (by omega), k3 j hj]
        · refine xVal.bin (b := b) (v := v) (u := v2) (k4.congr fun j i1 i2 => ?_) (j4.congr fun j i1 i2 => y5 j i2) ?_ ?_
          · rw [y5 j (by omega), j3 j (by omega)]
          · rw [y4]
            by_cases z0 : lc t n (sub p).1 = 60 <;> by_cases z1 : lc t n (sub p).1 = 61 <;> simp only [z0, z1, if_true, if_false, show ((60 : Int32) = 61) = False by decide, show ((61 : Int32) = 60) = False by decide] <;> decide
          · intro nm
            rw [y4]
            unfold opB
            by_cases z0 : lc t n (sub p).1 = 60
            · simp only [z0, if_true, xJ14]
            · by_cases z1 : lc t n (sub p).1 = 61
              · simp only [z1, if_true, if_false, show ((61 : Int32) = 60) = False by decide, xJ15]
              · simp only [z0, z1, if_false, xJ16]
    · have hP : pBs t n sub p = ((sub p).1, some v) := by
        unfold pBs
        rw [hv]
        exact if_neg hsg
      rw [if_neg hsg, hP]
      simp only [sX9_readB_33, sX9_readB_34, am_rt_some, am_rt_void, am_rt_none, am_rt_ite, ↓reduceIte, if_true, if_false, and_self, true_and, and_true, true_or, or_true, Bool.false_eq_true, reduceCtorEq]
      exact am_T.re ⟨f, g1, g2, g3, b, g4, g5, Or.inr ⟨rfl, v, rfl, k1, k2, k3, k4⟩⟩

def nmS (x : Int32) : Int32 := if x = 115 then -1 else if x = 116 then -2 else if x = 109 then -3 else if x = 102 then -4 else if x = 105 then -5 else if x = 119 then -6 else 0
theorem c_nameStep {x : Int32} : am_CL X (d + 1) mX9_nameStep [.int x] w = some (some (.int (nmS x)), w) := by
  rw [eX9_nameStep, sX9_nameStep_0]
  by_cases h102 : x = 102
  · subst h102
    simp only [sX9_nameStep_1_c102, sX9_nameStep_1_c103, sX9_nameStep_1_c104, sX9_nameStep_1_c105, sX9_nameStep_1_c106, sX9_nameStep_1_c107, sX9_nameStep_1_c108, sX9_nameStep_1_c109, sX9_nameStep_1_c110, sX9_nameStep_1_c111, sX9_nameStep_1_c112, sX9_nameStep_1_c113, sX9_nameStep_1_c114, sX9_nameStep_1_c115, sX9_nameStep_1_c116, sX9_nameStep_1_c117, sX9_nameStep_1_c118, sX9_nameStep_1_c119, sX9_nameStep_88, sX9_nameStep_89, sX9_nameStep_90, sX9_nameStep_92, sX9_nameStep_93, sX9_nameStep_95, sX9_nameStep_96, sX9_nameStep_98, sX9_nameStep_99, sX9_nameStep_101, sX9_nameStep_102, sX9_nameStep_104, sX9_nameStep_105, sX9_nameStep_106]
    rfl
  by_cases h103 : x = 103
  · subst h103
    simp only [sX9_nameStep_1_c102, sX9_nameStep_1_c103, sX9_nameStep_1_c104, sX9_nameStep_1_c105, sX9_nameStep_1_c106, sX9_nameStep_1_c107, sX9_nameStep_1_c108, sX9_nameStep_1_c109, sX9_nameStep_1_c110, sX9_nameStep_1_c111, sX9_nameStep_1_c112, sX9_nameStep_1_c113, sX9_nameStep_1_c114, sX9_nameStep_1_c115, sX9_nameStep_1_c116, sX9_nameStep_1_c117, sX9_nameStep_1_c118, sX9_nameStep_1_c119, sX9_nameStep_88, sX9_nameStep_89, sX9_nameStep_90, sX9_nameStep_92, sX9_nameStep_93, sX9_nameStep_95, sX9_nameStep_96, sX9_nameStep_98, sX9_nameStep_99, sX9_nameStep_101, sX9_nameStep_102, sX9_nameStep_104, sX9_nameStep_105, sX9_nameStep_106]
    rfl
  by_cases h104 : x = 104
  · subst h104
    simp only [sX9_nameStep_1_c102, sX9_nameStep_1_c103, sX9_nameStep_1_c104, sX9_nameStep_1_c105, sX9_nameStep_1_c106, sX9_nameStep_1_c107, sX9_nameStep_1_c108, sX9_nameStep_1_c109, sX9_nameStep_1_c110, sX9_nameStep_1_c111, sX9_nameStep_1_c112, sX9_nameStep_1_c113, sX9_nameStep_1_c114, sX9_nameStep_1_c115, sX9_nameStep_1_c116, sX9_nameStep_1_c117, sX9_nameStep_1_c118, sX9_nameStep_1_c119, sX9_nameStep_88, sX9_nameStep_89, sX9_nameStep_90, sX9_nameStep_92, sX9_nameStep_93, sX9_nameStep_95, sX9_nameStep_96, sX9_nameStep_98, sX9_nameStep_99, sX9_nameStep_101, sX9_nameStep_102, sX9_nameStep_104, sX9_nameStep_105, sX9_nameStep_106]
    rfl
  by_cases h105 : x = 105
  · subst h105
    simp only [sX9_nameStep_1_c102, sX9_nameStep_1_c103, sX9_nameStep_1_c104, sX9_nameStep_1_c105, sX9_nameStep_1_c106, sX9_nameStep_1_c107, sX9_nameStep_1_c108, sX9_nameStep_1_c109, sX9_nameStep_1_c110, sX9_nameStep_1_c111, sX9_nameStep_1_c112, sX9_nameStep_1_c113, sX9_nameStep_1_c114, sX9_nameStep_1_c115, sX9_nameStep_1_c116, sX9_nameStep_1_c117, sX9_nameStep_1_c118, sX9_nameStep_1_c119, sX9_nameStep_88, sX9_nameStep_89, sX9_nameStep_90, sX9_nameStep_92, sX9_nameStep_93, sX9_nameStep_95, sX9_nameStep_96, sX9_nameStep_98, sX9_nameStep_99, sX9_nameStep_101, sX9_nameStep_102, sX9_nameStep_104, sX9_nameStep_105, sX9_nameStep_106]
    rfl
  by_cases h106 : x = 106
  · subst h106
    simp only [sX9_nameStep_1_c102, sX9_nameStep_1_c103, sX9_nameStep_1_c104, sX9_nameStep_1_c105, sX9_nameStep_1_c106, sX9_nameStep_1_c107, sX9_nameStep_1_c108, sX9_nameStep_1_c109, sX9_nameStep_1_c110, sX9_nameStep_1_c111, sX9_nameStep_1_c112, sX9_nameStep_1_c113, sX9_nameStep_1_c114, sX9_nameStep_1_c115, sX9_nameStep_1_c116, sX9_nameStep_1_c117, sX9_nameStep_1_c118, sX9_nameStep_1_c119, sX9_nameStep_88, sX9_nameStep_89, sX9_nameStep_90, sX9_nameStep_92, sX9_nameStep_93, sX9_nameStep_95, sX9_nameStep_96, sX9_nameStep_98, sX9_nameStep_99, sX9_nameStep_101, sX9_nameStep_102, sX9_nameStep_104, sX9_nameStep_105, sX9_nameStep_106]
    rfl
  by_cases h107 : x = 107
  · subst h107
    simp only [sX9_nameStep_1_c102, sX9_nameStep_1_c103, sX9_nameStep_1_c104, sX9_nameStep_1_c105, sX9_nameStep_1_c106, sX9_nameStep_1_c107, sX9_nameStep_1_c108, sX9_nameStep_1_c109, sX9_nameStep_1_c110, sX9_nameStep_1_c111, sX9_nameStep_1_c112, sX9_nameStep_1_c113, sX9_nameStep_1_c114, sX9_nameStep_1_c115, sX9_nameStep_1_c116, sX9_nameStep_1_c117, sX9_nameStep_1_c118, sX9_nameStep_1_c119, sX9_nameStep_88, sX9_nameStep_89, sX9_nameStep_90, sX9_nameStep_92, sX9_nameStep_93, sX9_nameStep_95, sX9_nameStep_96, sX9_nameStep_98, sX9_nameStep_99, sX9_nameStep_101, sX9_nameStep_102, sX9_nameStep_104, sX9_nameStep_105, sX9_nameStep_106]
    rfl
  by_cases h108 : x = 108
  · subst h108
    simp only [sX9_nameStep_1_c102, sX9_nameStep_1_c103, sX9_nameStep_1_c104, sX9_nameStep_1_c105, sX9_nameStep_1_c106, sX9_nameStep_1_c107, sX9_nameStep_1_c108, sX9_nameStep_1_c109, sX9_nameStep_1_c110, sX9_nameStep_1_c111, sX9_nameStep_1_c112, sX9_nameStep_1_c113, sX9_nameStep_1_c114, sX9_nameStep_1_c115, sX9_nameStep_1_c116, sX9_nameStep_1_c117, sX9_nameStep_1_c118, sX9_nameStep_1_c119, sX9_nameStep_88, sX9_nameStep_89, sX9_nameStep_90, sX9_nameStep_92, sX9_nameStep_93, sX9_nameStep_95, sX9_nameStep_96, sX9_nameStep_98, sX9_nameStep_99, sX9_nameStep_101, sX9_nameStep_102, sX9_nameStep_104, sX9_nameStep_105, sX9_nameStep_106]
    rfl
  by_cases h109 : x = 109
  · subst h109
    simp only [sX9_nameStep_1_c102, sX9_nameStep_1_c103, sX9_nameStep_1_c104, sX9_nameStep_1_c105, sX9_nameStep_1_c106, sX9_nameStep_1_c107, sX9_nameStep_1_c108, sX9_nameStep_1_c109, sX9_nameStep_1_c110, sX9_nameStep_1_c111, sX9_nameStep_1_c112, sX9_nameStep_1_c113, sX9_nameStep_1_c114, sX9_nameStep_1_c115, sX9_nameStep_1_c116, sX9_nameStep_1_c117, sX9_nameStep_1_c118, sX9_nameStep_1_c119, sX9_nameStep_88, sX9_nameStep_89, sX9_nameStep_90, sX9_nameStep_92, sX9_nameStep_93, sX9_nameStep_95, sX9_nameStep_96, sX9_nameStep_98, sX9_nameStep_99, sX9_nameStep_101, sX9_nameStep_102, sX9_nameStep_104, sX9_nameStep_105, sX9_nameStep_106]
    rfl
  by_cases h110 : x = 110
  · subst h110
    simp only [sX9_nameStep_1_c102, sX9_nameStep_1_c103, sX9_nameStep_1_c104, sX9_nameStep_1_c105, sX9_nameStep_1_c106, sX9_nameStep_1_c107, sX9_nameStep_1_c108, sX9_nameStep_1_c109, sX9_nameStep_1_c110, sX9_nameStep_1_c111, sX9_nameStep_1_c112, sX9_nameStep_1_c113, sX9_nameStep_1_c114, sX9_nameStep_1_c115, sX9_nameStep_1_c116, sX9_nameStep_1_c117, sX9_nameStep_1_c118, sX9_nameStep_1_c119, sX9_nameStep_88, sX9_nameStep_89, sX9_nameStep_90, sX9_nameStep_92, sX9_nameStep_93, sX9_nameStep_95, sX9_nameStep_96, sX9_nameStep_98, sX9_nameStep_99, sX9_nameStep_101, sX9_nameStep_102, sX9_nameStep_104, sX9_nameStep_105, sX9_nameStep_106]
    rfl
  by_cases h111 : x = 111
  · subst h111
    simp only [sX9_nameStep_1_c102, sX9_nameStep_1_c103, sX9_nameStep_1_c104, sX9_nameStep_1_c105, sX9_nameStep_1_c106, sX9_nameStep_1_c107, sX9_nameStep_1_c108, sX9_nameStep_1_c109, sX9_nameStep_1_c110, sX9_nameStep_1_c111, sX9_nameStep_1_c112, sX9_nameStep_1_c113, sX9_nameStep_1_c114, sX9_nameStep_1_c115, sX9_nameStep_1_c116, sX9_nameStep_1_c117, sX9_nameStep_1_c118, sX9_nameStep_1_c119, sX9_nameStep_88, sX9_nameStep_89, sX9_nameStep_90, sX9_nameStep_92, sX9_nameStep_93, sX9_nameStep_95, sX9_nameStep_96, sX9_nameStep_98, sX9_nameStep_99, sX9_nameStep_101, sX9_nameStep_102, sX9_nameStep_104, sX9_nameStep_105, sX9_nameStep_106]
    rfl
  by_cases h112 : x = 112
  · subst h112
    simp only [sX9_nameStep_1_c102, sX9_nameStep_1_c103, sX9_nameStep_1_c104, sX9_nameStep_1_c105, sX9_nameStep_1_c106, sX9_nameStep_1_c107, sX9_nameStep_1_c108, sX9_nameStep_1_c109, sX9_nameStep_1_c110, sX9_nameStep_1_c111, sX9_nameStep_1_c112, sX9_nameStep_1_c113, sX9_nameStep_1_c114, sX9_nameStep_1_c115, sX9_nameStep_1_c116, sX9_nameStep_1_c117, sX9_nameStep_1_c118, sX9_nameStep_1_c119, sX9_nameStep_88, sX9_nameStep_89, sX9_nameStep_90, sX9_nameStep_92, sX9_nameStep_93, sX9_nameStep_95, sX9_nameStep_96, sX9_nameStep_98, sX9_nameStep_99, sX9_nameStep_101, sX9_nameStep_102, sX9_nameStep_104, sX9_nameStep_105, sX9_nameStep_106]
    rfl
  by_cases h113 : x = 113
  · subst h113
    simp only [sX9_nameStep_1_c102, sX9_nameStep_1_c103, sX9_nameStep_1_c104, sX9_nameStep_1_c105, sX9_nameStep_1_c106, sX9_nameStep_1_c107, sX9_nameStep_1_c108, sX9_nameStep_1_c109, sX9_nameStep_1_c110, sX9_nameStep_1_c111, sX9_nameStep_1_c112, sX9_nameStep_1_c113, sX9_nameStep_1_c114, sX9_nameStep_1_c115, sX9_nameStep_1_c116, sX9_nameStep_1_c117, sX9_nameStep_1_c118, sX9_nameStep_1_c119, sX9_nameStep_88, sX9_nameStep_89, sX9_nameStep_90, sX9_nameStep_92, sX9_nameStep_93, sX9_nameStep_95, sX9_nameStep_96, sX9_nameStep_98, sX9_nameStep_99, sX9_nameStep_101, sX9_nameStep_102, sX9_nameStep_104, sX9_nameStep_105, sX9_nameStep_106]
    rfl
  by_cases h114 : x = 114
  · subst h114
    simp only [sX9_nameStep_1_c102, sX9_nameStep_1_c103, sX9_nameStep_1_c104, sX9_nameStep_1_c105, sX9_nameStep_1_c106, sX9_nameStep_1_c107, sX9_nameStep_1_c108, sX9_nameStep_1_c109, sX9_nameStep_1_c110, sX9_nameStep_1_c111, sX9_nameStep_1_c112, sX9_nameStep_1_c113, sX9_nameStep_1_c114, sX9_nameStep_1_c115, sX9_nameStep_1_c116, sX9_nameStep_1_c117, sX9_nameStep_1_c118, sX9_nameStep_1_c119, sX9_nameStep_88, sX9_nameStep_89, sX9_nameStep_90, sX9_nameStep_92, sX9_nameStep_93, sX9_nameStep_95, sX9_nameStep_96, sX9_nameStep_98, sX9_nameStep_99, sX9_nameStep_101, sX9_nameStep_102, sX9_nameStep_104, sX9_nameStep_105, sX9_nameStep_106]
    rfl
  by_cases h115 : x = 115
  · subst h115
    simp only [sX9_nameStep_1_c102, sX9_nameStep_1_c103, sX9_nameStep_1_c104, sX9_nameStep_1_c105, sX9_nameStep_1_c106, sX9_nameStep_1_c107, sX9_nameStep_1_c108, sX9_nameStep_1_c109, sX9_nameStep_1_c110, sX9_nameStep_1_c111, sX9_nameStep_1_c112, sX9_nameStep_1_c113, sX9_nameStep_1_c114, sX9_nameStep_1_c115, sX9_nameStep_1_c116, sX9_nameStep_1_c117, sX9_nameStep_1_c118, sX9_nameStep_1_c119, sX9_nameStep_88, sX9_nameStep_89, sX9_nameStep_90, sX9_nameStep_92, sX9_nameStep_93, sX9_nameStep_95, sX9_nameStep_96, sX9_nameStep_98, sX9_nameStep_99, sX9_nameStep_101, sX9_nameStep_102, sX9_nameStep_104, sX9_nameStep_105, sX9_nameStep_106]
    rfl
  by_cases h116 : x = 116
  · subst h116
    simp only [sX9_nameStep_1_c102, sX9_nameStep_1_c103, sX9_nameStep_1_c104, sX9_nameStep_1_c105, sX9_nameStep_1_c106, sX9_nameStep_1_c107, sX9_nameStep_1_c108, sX9_nameStep_1_c109, sX9_nameStep_1_c110, sX9_nameStep_1_c111, sX9_nameStep_1_c112, sX9_nameStep_1_c113, sX9_nameStep_1_c114, sX9_nameStep_1_c115, sX9_nameStep_1_c116, sX9_nameStep_1_c117, sX9_nameStep_1_c118, sX9_nameStep_1_c119, sX9_nameStep_88, sX9_nameStep_89, sX9_nameStep_90, sX9_nameStep_92, sX9_nameStep_93, sX9_nameStep_95, sX9_nameStep_96, sX9_nameStep_98, sX9_nameStep_99, sX9_nameStep_101, sX9_nameStep_102, sX9_nameStep_104, sX9_nameStep_105, sX9_nameStep_106]
    rfl
  by_cases h117 : x = 117
  · subst h117
    simp only [sX9_nameStep_1_c102, sX9_nameStep_1_c103, sX9_nameStep_1_c104, sX9_nameStep_1_c105, sX9_nameStep_1_c106, sX9_nameStep_1_c107, sX9_nameStep_1_c108, sX9_nameStep_1_c109, sX9_nameStep_1_c110, sX9_nameStep_1_c111, sX9_nameStep_1_c112, sX9_nameStep_1_c113, sX9_nameStep_1_c114, sX9_nameStep_1_c115, sX9_nameStep_1_c116, sX9_nameStep_1_c117, sX9_nameStep_1_c118, sX9_nameStep_1_c119, sX9_nameStep_88, sX9_nameStep_89, sX9_nameStep_90, sX9_nameStep_92, sX9_nameStep_93, sX9_nameStep_95, sX9_nameStep_96, sX9_nameStep_98, sX9_nameStep_99, sX9_nameStep_101, sX9_nameStep_102, sX9_nameStep_104, sX9_nameStep_105, sX9_nameStep_106]
    rfl
  by_cases h118 : x = 118
  · subst h118
    simp only [sX9_nameStep_1_c102, sX9_nameStep_1_c103, sX9_nameStep_1_c104, sX9_nameStep_1_c105, sX9_nameStep_1_c106, sX9_nameStep_1_c107, sX9_nameStep_1_c108, sX9_nameStep_1_c109, sX9_nameStep_1_c110, sX9_nameStep_1_c111, sX9_nameStep_1_c112, sX9_nameStep_1_c113, sX9_nameStep_1_c114, sX9_nameStep_1_c115, sX9_nameStep_1_c116, sX9_nameStep_1_c117, sX9_nameStep_1_c118, sX9_nameStep_1_c119, sX9_nameStep_88, sX9_nameStep_89, sX9_nameStep_90, sX9_nameStep_92, sX9_nameStep_93, sX9_nameStep_95, sX9_nameStep_96, sX9_nameStep_98, sX9_nameStep_99, sX9_nameStep_101, sX9_nameStep_102, sX9_nameStep_104, sX9_nameStep_105, sX9_nameStep_106]
    rfl
  by_cases h119 : x = 119
  · subst h119
    simp only [sX9_nameStep_1_c102, sX9_nameStep_1_c103, sX9_nameStep_1_c104, sX9_nameStep_1_c105, sX9_nameStep_1_c106, sX9_nameStep_1_c107, sX9_nameStep_1_c108, sX9_nameStep_1_c109, sX9_nameStep_1_c110, sX9_nameStep_1_c111, sX9_nameStep_1_c112, sX9_nameStep_1_c113, sX9_nameStep_1_c114, sX9_nameStep_1_c115, sX9_nameStep_1_c116, sX9_nameStep_1_c117, sX9_nameStep_1_c118, sX9_nameStep_1_c119, sX9_nameStep_88, sX9_nameStep_89, sX9_nameStep_90, sX9_nameStep_92, sX9_nameStep_93, sX9_nameStep_95, sX9_nameStep_96, sX9_nameStep_98, sX9_nameStep_99, sX9_nameStep_101, sX9_nameStep_102, sX9_nameStep_104, sX9_nameStep_105, sX9_nameStep_106]
    rfl
  have hd : x.toInt < 102 ∨ 119 < x.toInt := by
    have q102 : x.toInt ≠ 102 := am_ne h102
    have q103 : x.toInt ≠ 103 := am_ne h103
    have q104 : x.toInt ≠ 104 := am_ne h104
    have q105 : x.toInt ≠ 105 := am_ne h105
    have q106 : x.toInt ≠ 106 := am_ne h106
    have q107 : x.toInt ≠ 107 := am_ne h107
    have q108 : x.toInt ≠ 108 := am_ne h108
    have q109 : x.toInt ≠ 109 := am_ne h109
    have q110 : x.toInt ≠ 110 := am_ne h110
    have q111 : x.toInt ≠ 111 := am_ne h111
    have q112 : x.toInt ≠ 112 := am_ne h112
    have q113 : x.toInt ≠ 113 := am_ne h113
    have q114 : x.toInt ≠ 114 := am_ne h114
    have q115 : x.toInt ≠ 115 := am_ne h115
    have q116 : x.toInt ≠ 116 := am_ne h116
    have q117 : x.toInt ≠ 117 := am_ne h117
    have q118 : x.toInt ≠ 118 := am_ne h118
    have q119 : x.toInt ≠ 119 := am_ne h119
    omega
  rw [sX9_nameStep_1_d hd]
  simp only [sX9_nameStep_105, sX9_nameStep_106]
  unfold nmS
  rw [if_neg h115, if_neg h116, if_neg h109, if_neg h102, if_neg h105, if_neg h119]


theorem nmS_none {x : Int32} (h : pName x = none) : nmS x = 0 := by
  unfold pName at h
  unfold nmS
  by_cases h1 : x = 115
  · rw [if_pos h1] at h; cases h
  by_cases h2 : x = 116
  · rw [if_neg h1, if_pos h2] at h; cases h
  by_cases h3 : x = 109
  · rw [if_neg h1, if_neg h2, if_pos h3] at h; cases h
  by_cases h4 : x = 102
  · rw [if_neg h1, if_neg h2, if_neg h3, if_pos h4] at h; cases h
  by_cases h5 : x = 105
  · rw [if_neg h1, if_neg h2, if_neg h3, if_neg h4, if_pos h5] at h; cases h
  by_cases h6 : x = 119
  · rw [if_neg h1, if_neg h2, if_neg h3, if_neg h4, if_neg h5, if_pos h6] at h; cases h
  rw [if_neg h1, if_neg h2, if_neg h3, if_neg h4, if_neg h5, if_neg h6]
theorem nmS_some {x : Int32} {k : Nat} (h : pName x = some k) : k < 6 ∧ nmS x = -1 - nI k ∧ x ≠ -1 := by
  unfold pName at h
  unfold nmS
  by_cases h1 : x = 115
  · rw [if_pos h1] at h ⊢; cases h; subst h1; decide
  by_cases h2 : x = 116
  · rw [if_neg h1, if_pos h2] at h ⊢; cases h; subst h2; decide
  by_cases h3 : x = 109
  · rw [if_neg h1, if_neg h2, if_pos h3] at h ⊢; cases h; subst h3; decide
  by_cases h4 : x = 102
  · rw [if_neg h1, if_neg h2, if_neg h3, if_pos h4] at h ⊢; cases h; subst h4; decide
  by_cases h5 : x = 105
  · rw [if_neg h1, if_neg h2, if_neg h3, if_neg h4, if_pos h5] at h ⊢; cases h; subst h5; decide
  by_cases h6 : x = 119
  · rw [if_neg h1, if_neg h2, if_neg h3, if_neg h4, if_neg h5, if_pos h6] at h ⊢; cases h; subst h6; decide
  rw [if_neg h1, if_neg h2, if_neg h3, if_neg h4, if_neg h5, if_neg h6] at h; cases h
/-- digits -/
theorem dg_of {x : Int32} (h : ¬ x < 48 ∧ ¬ 57 < x) : ∃ c : Nat, 48 ≤ c ∧ c ≤ 57 ∧ x = nI c := by
  have h0 : ¬ x < 0 := fun q => h.1 (Int32.lt_trans q (by decide))
  obtain ⟨c, hc, rfl⟩ := nI_of h0
  refine ⟨c, ?_, ?_, rfl⟩
  · have := h.1
    rw [am_nlit (x := 48) 48 rfl (show c < 2147483648 by omega) (by decide)] at this
    omega
  · have := h.2
    rw [show (57 : Int32) = nI 57 from rfl, am_nlt (by decide) (show c < 2147483648 by omega)] at this
    omega
theorem pDig_b (t : Nat → Int32) (n : Nat) : ∀ (k p x B : Nat), p ≤ n → x < B → B * 10 ^ k ≤ 10000 → p ≤ (pDig t n k p (nI x)).1 ∧ (pDig t n k p (nI x)).1 ≤ n ∧ (pDig t n k p (nI x)).1 ≤ p + k ∧ ∃ y : Nat, y < 10000 ∧ (pDig t n k p (nI x)).2 = nI y := by
  intro k
  induction k with
  | zero =>
    intro p x B hp hx hB
    refine ⟨Nat.le_refl _, hp, Nat.le_refl _, x, ?_, rfl⟩
    simp at hB
    omega
  | succ k ih =>
    intro p x B hp hx hB
    by_cases h : ¬ lc t n p < 48 ∧ ¬ 57 < lc t n p
    · obtain ⟨c, c1, c2, c3⟩ := dg_of h
      have hpn : p < n := lc_lt c3 (by
        intro q
        have := congrArg Int32.toInt q
        rw [nI_toInt (by omega)] at this
        have h2 : (-1 : Int32).toInt = -1 := by decide
        omega)
      have e : pDig t n (k + 1) p (nI x) = pDig t n k (p + 1) (nI (x * 10 + (c - 48))) := by
        show (if ¬ lc t n p < 48 ∧ ¬ 57 < lc t n p then pDig t n k (p + 1) (nI x * 10 + lc t n p - 48) else (p, nI x)) = _
        rw [if_pos h, c3, show (10 : Int32) = nI 10 from rfl, show (48 : Int32) = nI 48 from rfl, i_mul, i_add, i_sub (by omega), show x * 10 + c - 48 = x * 10 + (c - 48) by omega]
      rw [e]
      have hB2 : B * 10 * 10 ^ k ≤ 10000 := by rw [Nat.mul_assoc, ← Nat.pow_succ']; exact hB
      obtain ⟨g1, g2, g3, g4⟩ := ih (p + 1) (x * 10 + (c - 48)) (B * 10) (by omega) (by omega) hB2
      exact ⟨by omega, g2, by omega, g4⟩
    · have e : pDig t n (k + 1) p (nI x) = (p, nI x) := if_neg h
      rw [e]
      have : B ≤ 10000 := Nat.le_trans (Nat.le_mul_of_pos_right B (Nat.pow_pos (by decide))) hB
      exact ⟨Nat.le_refl _, hp, by show p ≤ p + (k + 1); omega, x, by omega, rfl⟩
theorem c_readNumber {n p a : Nat} {t : Nat → Int32} (hpre : tpPre n p a t I A) (ha : a < 120) : am_T (am_CL X (d + 2) mX9_readNumber [.ref 1] (am_wd I A J)) (oU fun I' A' J' => Fr [(1, 2), (1, 4)] [3] [] I A J I' A' J' ∧ I' 1 2 = nI (pDig t n 4 p 0).1 ∧ I' 1 4 = nI (a + 1) ∧ A' 3 a = (pDig t n 4 p 0).2 ∧ ∀ j, j < a → A' 3 j = A 3 j) := by
  obtain ⟨h1, h2, h3, h4, hn, hp, hap⟩ := hpre
  have e10 : ((1 : Int32) = 0) = False := by decide
  have key : ∀ (m c q x B : Nat) (I1 : TI), c + m = 4 → q ≤ n → x < B → B * 10 ^ m ≤ 10000 → Fr [(1, 2), (1, 4)] [3] [] I A J I1 A J → I1 1 2 = nI q → I1 1 4 = nI a → am_T (am_EV X (d + 1) mX9_readNumber 4 [.ref 1, .int (nI x), .int (nI c)] [] (am_wd I1 A J)) (oU fun I' A' J' => Fr [(1, 2), (1, 4)] [3] [] I A J I' A' J' ∧ I' 1 2 = nI (pDig t n m q (nI x)).1 ∧ I' 1 4 = nI (a + 1) ∧ A' 3 a = (pDig t n m q (nI x)).2 ∧ ∀ j, j < a → A' 3 j = A 3 j) := by
    have fin : ∀ (q : Nat) (y : Int32) (cc : Value) (I1 : TI), Fr [(1, 2), (1, 4)] [3] [] I A J I1 A J → I1 1 2 = nI q → I1 1 4 = nI a → am_T (am_EV X (d + 1) mX9_readNumber 48 [.ref 1, .int y, cc] [] (am_wd I1 A J)) (oU fun I' A' J' => Fr [(1, 2), (1, 4)] [3] [] I A J I' A' J' ∧ I' 1 2 = nI q ∧ I' 1 4 = nI (a + 1) ∧ A' 3 a = y ∧ ∀ j, j < a → A' 3 j = A 3 j) := by
      intro q y cc I1 f g1 g2
      simp only [sX9_readNumber_48, sX9_readNumber_49, sX9_readNumber_50, wo_1, wf_1_0, wv_1_0, wf_1_1, wv_1_1, wp_1_1, wf_1_2, wv_1_2, wp_1_2, wf_1_3, wv_1_3, wf_1_4, wv_1_4, wp_1_4, wf_1_5, wv_1_5, wf_1_6, wv_1_6, wf_1_7, wv_1_7, wp_1_7, am_rt_some, am_rt_void, am_rt_none, am_rt_ite, ↓reduceIte, if_true, if_false, and_self, true_and, and_true, true_or, or_true, Bool.false_eq_true, reduceCtorEq]
      refine am_T.rtU (c_make (by omega) g2) ?_
      intro I3 A3 J3 ⟨f3, y0, b3, y1, y2, y3⟩
      obtain ⟨rfl, y4, y5⟩ := y3 ha
      simp only [sX9_readNumber_53]
      exact am_T.ru ⟨f.tr f3, y0.trans g1, y1, y4, y5⟩
    intro m
    induction m with
    | zero =>
      intro c q x B I1 hc hq hx hB f g1 g2
      have hc0 : c = 4 := by omega
      subst hc0
      simp only [sX9_readNumber_4, sX9_readNumber_5, sX9_readNumber_6, am_rt_some, am_rt_void, am_rt_none, am_rt_ite, ↓reduceIte, if_true, if_false, and_self, true_and, and_true, true_or, or_true, Bool.false_eq_true, reduceCtorEq, show (nI 4 < 4) = False by decide]
      exact fin q _ _ I1 f g1 g2
    | succ m ih =>
      intro c q x B I1 hc hq hx hB f g1 g2
      have hlt : (nI c < 4) = True := by rw [am_nlit (x := 4) 4 rfl (show c < 2147483648 by omega) (by decide)]; exact eq_true (by omega)
      have hc1 : I1 1 1 = nI n := (f.i 1 1 (by decide)).trans h1
      rw [sX9_readNumber_4]
      simp only [sX9_readNumber_5, sX9_readNumber_6, sX9_readNumber_9, sX9_readNumber_10, sX9_readNumber_13, sX9_readNumber_16, wo_1, wf_1_0, wv_1_0, wf_1_1, wv_1_1, wp_1_1, wf_1_2, wv_1_2, wp_1_2, wf_1_3, wv_1_3, wf_1_4, wv_1_4, wp_1_4, wf_1_5, wv_1_5, wf_1_6, wv_1_6, wf_1_7, wv_1_7, wp_1_7, am_rt_some, am_rt_void, am_rt_none, am_rt_ite, ↓reduceIte, if_true, if_false, and_self, true_and, and_true, true_or, or_true, Bool.false_eq_true, reduceCtorEq, hlt, c_next hn (show q ≤ 120 by omega) hc1 g1, h2, c_isDigit, am_bi_eq0]
      by_cases h : ¬ lc t n q < 48 ∧ ¬ 57 < lc t n q
      · obtain ⟨z, c1, c2, c3⟩ := dg_of h
        have hpn : q < n := lc_lt c3 (by
          intro q
          have := congrArg Int32.toInt q
          rw [nI_toInt (by omega)] at this
          have h2 : (-1 : Int32).toInt = -1 := by decide
          omega)
        have e : pDig t n (m + 1) q (nI x) = pDig t n m (q + 1) (nI (x * 10 + (z - 48))) := by
          show (if ¬ lc t n q < 48 ∧ ¬ 57 < lc t n q then pDig t n m (q + 1) (nI x * 10 + lc t n q - 48) else (q, nI x)) = _
          rw [if_pos h, c3, show (10 : Int32) = nI 10 from rfl, show (48 : Int32) = nI 48 from rfl, i_mul, i_add, i_sub (by omega), show x * 10 + z - 48 = x * 10 + (z - 48) by omega]
        rw [e, if_neg (fun q => q h)]
        simp only [sX9_readNumber_19, sX9_readNumber_20, sX9_readNumber_22, sX9_readNumber_23, sX9_readNumber_24, sX9_readNumber_27, sX9_readNumber_28, sX9_readNumber_30, sX9_readNumber_31, sX9_readNumber_32, sX9_readNumber_33, sX9_readNumber_33_r, sX9_readNumber_34, sX9_readNumber_37, sX9_readNumber_38, sX9_readNumber_39, sX9_readNumber_42, sX9_readNumber_45, wo_1, wf_1_0, wv_1_0, wf_1_1, wv_1_1, wp_1_1, wf_1_2, wv_1_2, wp_1_2, wf_1_3, wv_1_3, wf_1_4, wv_1_4, wp_1_4, wf_1_5, wv_1_5, wf_1_6, wv_1_6, wf_1_7, wv_1_7, wp_1_7, am_rt_some, am_rt_void, am_rt_none, am_rt_ite, ↓reduceIte, if_true, if_false, and_self, true_and, and_true, true_or, or_true, Bool.false_eq_true, reduceCtorEq, c_next hn (show q ≤ 120 by omega) hc1 g1, h2, g1, am_n1, c3]
        rw [show (10 : Int32) = nI 10 from rfl, show (48 : Int32) = nI 48 from rfl, i_mul, i_add, i_sub (by omega), show x * 10 + z - 48 = x * 10 + (z - 48) by omega]
        exact ih (c + 1) (q + 1) _ (B * 10) _ (by omega) (by omega) (by omega) (by rw [Nat.mul_assoc, ← Nat.pow_succ']; exact hB) (f.ui (by decide)) rfl g2
      · have e : pDig t n (m + 1) q (nI x) = (q, nI x) := if_neg h
        rw [e, if_pos h]
        exact fin q _ _ I1 f g1 g2
  simp only [eX9_readNumber, sX9_readNumber_0, sX9_readNumber_1, sX9_readNumber_2, sX9_readNumber_3]
  exact key 4 0 p 0 1 I (by omega) hp (by omega) (by decide) Fr.rf h3 h4
/-- behind ( : E ) -/
def pIn1 (t : Nat → Int32) (n : Nat) (sub : Nat → PR) (p : Nat) : PR := match (sub p).2 with
  | none => ((sub p).1, none)
  | some v => if lc t n (sub p).1 = 41 then ((sub p).1 + 1, some v) else ((sub p).1, none)
def pSg1 (c : Int32) (sub : Nat → PR) (p : Nat) : PR := match (sub p).2 with
  | none => ((sub p).1, none)
  | some v => ((sub p).1, some (fun nm => if c = 33 then (if v nm = 0 then 1 else 0) else - v nm))
theorem pIn_eq (t : Nat → Int32) (n : Nat) (o : Nat → PR) (p : Nat) : pIn t n o p = pIn1 t n (pEf t n o) (p + 1) := rfl
theorem pSg_eq (t : Nat → Int32) (n : Nat) (o : Nat → PR) (p : Nat) : pSg t n o p = pSg1 (lc t n p) o (p + 1) := rfl
theorem rd_In {D n : Nat} {t : Nat → Int32} {sub : Nat → PR} {o : Int32} (hs : Rds (D + 1) mX9_readE [.int o] n t sub) : Rds (D + 2) mX9_readInner [.int o] n t (pIn1 t n sub) := by
  intro X d I A J p a hd hpre
  obtain ⟨k, rfl⟩ : ∃ k, d = k + 2 := ⟨d - 2, by omega⟩
  have hX := hs X (k + 1) I A J p a (by omega) hpre
  obtain ⟨h1, h2, h3, h4, hn, hp, ha⟩ := hpre
  have e10 : ((1 : Int32) = 0) = False := by decide
  simp only [eX9_readInner, sX9_readInner_0, sX9_readInner_1, sX9_readInner_2, wo_1, wf_1_0, wv_1_0, wf_1_1, wv_1_1, wp_1_1, wf_1_2, wv_1_2, wp_1_2, wf_1_3, wv_1_3, wf_1_4, wv_1_4, wp_1_4, wf_1_5, wv_1_5, wf_1_6, wv_1_6, wf_1_7, wv_1_7, wp_1_7, am_rt_some, am_rt_void, am_rt_none, am_rt_ite, ↓reduceIte, if_true, if_false, and_self, true_and, and_true, true_or, or_true, Bool.false_eq_true, reduceCtorEq]
  refine am_T.rtE hX ?_
  intro r I1 A1 J1 ⟨f, g1, g2, g3, b, g4, g5, g6⟩
  rcases g6 with ⟨rfl, hno⟩ | ⟨rfl, v, hv, k1, k2, k3, k4⟩
  · have e : pIn1 t n sub p = ((sub p).1, none) := by unfold pIn1; rw [hno]
    rw [e]
    simp only [sX9_readInner_5, sX9_readInner_8, sX9_readInner_9, sX9_readInner_12, sX9_readInner_14, sX9_readInner_17, sX9_readInner_18, am_rt_some, am_rt_void, am_rt_none, am_rt_ite, ↓reduceIte, if_true, if_false, and_self, true_and, and_true, true_or, or_true, Bool.false_eq_true, reduceCtorEq]
    exact am_T.re ⟨f, g1, g2, g3, b, g4, g5, Or.inl ⟨rfl, rfl⟩⟩
  · have hc1 : I1 1 1 = nI n := (f.i 1 1 (by decide)).trans h1
    have hc2 : A1 2 = t := (f.a 2 (by decide)).trans h2
    have hP : pIn1 t n sub p = if lc t n (sub p).1 = 41 then ((sub p).1 + 1, some v) else ((sub p).1, none) := by unfold pIn1; rw [hv]
    rw [hP]
    simp only [sX9_readInner_5, sX9_readInner_8, sX9_readInner_9, sX9_readInner_12, sX9_readInner_14, wo_1, wf_1_0, wv_1_0, wf_1_1, wv_1_1, wp_1_1, wf_1_2, wv_1_2, wp_1_2, wf_1_3, wv_1_3, wf_1_4, wv_1_4, wp_1_4, wf_1_5, wv_1_5, wf_1_6, wv_1_6, wf_1_7, wv_1_7, wp_1_7, am_rt_some, am_rt_void, am_rt_none, am_rt_ite, ↓reduceIte, if_true, if_false, and_self, true_and, and_true, true_or, or_true, Bool.false_eq_true, reduceCtorEq, e10, c_next hn (show (sub p).1 ≤ 120 by omega) hc1 g1, hc2]
    by_cases q : lc t n (sub p).1 = 41
    · have hlt := lc_lt q (by decide)
      rw [if_pos q, if_pos q]
      simp only [sX9_readInner_19, sX9_readInner_20, sX9_readInner_20_r, sX9_readInner_21, sX9_readInner_24, sX9_readInner_25, sX9_readInner_26, sX9_readInner_29, sX9_readInner_30, wo_1, wf_1_0, wv_1_0, wf_1_1, wv_1_1, wp_1_1, wf_1_2, wv_1_2, wp_1_2, wf_1_3, wv_1_3, wf_1_4, wv_1_4, wp_1_4, wf_1_5, wv_1_5, wf_1_6, wv_1_6, wf_1_7, wv_1_7, wp_1_7, am_rt_some, am_rt_void, am_rt_none, am_rt_ite, ↓reduceIte, if_true, if_false, and_self, true_and, and_true, true_or, or_true, Bool.false_eq_true, reduceCtorEq, g1, am_n1]
      exact am_T.re ⟨f.ui (by decide), rfl, by show p ≤ (sub p).1 + 1; omega, hlt, b, g4, g5, Or.inr ⟨rfl, v, rfl, by show b + p ≤ a + ((sub p).1 + 1); omega, k2, k3, k4⟩⟩
    · rw [if_neg q, if_neg q]
      simp only [sX9_readInner_17, sX9_readInner_18, am_rt_some, am_rt_void, am_rt_none, am_rt_ite, ↓reduceIte, if_true, if_false, and_self, true_and, and_true, true_or, or_true, Bool.false_eq_true, reduceCtorEq]
      exact am_T.re ⟨f, g1, g2, g3, b, g4, g5, Or.inl ⟨rfl, rfl⟩⟩
theorem rd_Sg {D n : Nat} {t : Nat → Int32} {sub : Nat → PR} {o c : Int32} (hs : Rds (D + 1) mX9_readO [.int o] n t sub) : ∀ (X : Nat × (Nat → Int32)) (d : Nat) (I A : TI) (J : TJ) (p a : Nat), D + 2 ≤ d → tpPre n p a t I A → a < p → am_T (am_CL X d mX9_readSigned [.ref 1, .int c, .int o] (am_wd I A J)) (oE (tpPost n (p - 1) a (pSg1 c sub p) I A J)) := by
  intro X d I A J p a hd hpre hap
  obtain ⟨k, rfl⟩ : ∃ k, d = k + 2 := ⟨d - 2, by omega⟩
  have hX := hs X (k + 1) I A J p a (by omega) hpre
  obtain ⟨h1, h2, h3, h4, hn, hp, ha⟩ := hpre
  have e10 : ((1 : Int32) = 0) = False := by decide
  simp only [eX9_readSigned, sX9_readSigned_0, sX9_readSigned_1, sX9_readSigned_2, wo_1, wf_1_0, wv_1_0, wf_1_1, wv_1_1, wp_1_1, wf_1_2, wv_1_2, wp_1_2, wf_1_3, wv_1_3, wf_1_4, wv_1_4, wp_1_4, wf_1_5, wv_1_5, wf_1_6, wv_1_6, wf_1_7, wv_1_7, wp_1_7, am_rt_some, am_rt_void, am_rt_none, am_rt_ite, ↓reduceIte, if_true, if_false, and_self, true_and, and_true, true_or, or_true, Bool.false_eq_true, reduceCtorEq]
  refine am_T.rtE hX ?_
  intro r I1 A1 J1 ⟨f, g1, g2, g3, b, g4, g5, g6⟩
  rcases g6 with ⟨rfl, hno⟩ | ⟨rfl, v, hv, k1, k2, k3, k4⟩
  · have e : pSg1 c sub p = ((sub p).1, none) := by unfold pSg1; rw [hno]
    rw [e]
    simp only [sX9_readSigned_5, sX9_readSigned_8, sX9_readSigned_9, am_rt_some, am_rt_void, am_rt_none, am_rt_ite, ↓reduceIte, if_true, if_false, and_self, true_and, and_true, true_or, or_true, Bool.false_eq_true, reduceCtorEq]
    exact am_T.re ⟨f, g1, by show p - 1 ≤ (sub p).1; omega, g3, b, g4, g5, Or.inl ⟨rfl, rfl⟩⟩
  · have hP : pSg1 c sub p = ((sub p).1, some (fun nm => if c = 33 then (if v nm = 0 then 1 else 0) else - v nm)) := by unfold pSg1; rw [hv]
    rw [hP]
    have mk : ∀ (w : am_W), am_EV X (k + 1) mX9_readSigned 10 [.ref 1, .int c, .int o] [] w = am_EV X (k + 1) mX9_readSigned 24 [.ref 1, .int c, .int o] [.int (if c = 33 then -7 else -8), .ref 1] w := by
      intro w
      simp only [sX9_readSigned_10, sX9_readSigned_11, sX9_readSigned_12, sX9_readSigned_14, sX9_readSigned_17, sX9_readSigned_19, sX9_readSigned_22, am_rt_some, am_rt_void, am_rt_none, am_rt_ite, ↓reduceIte, if_true, if_false, and_self, true_and, and_true, true_or, or_true, Bool.false_eq_true, reduceCtorEq]
      by_cases z0 : c = 33 <;> simp only [z0, if_true, if_false]
    rw [sX9_readSigned_5]
    simp only [e10, if_false]
    rw [mk]
    simp only [sX9_readSigned_24, wo_1, wf_1_0, wv_1_0, wf_1_1, wv_1_1, wp_1_1, wf_1_2, wv_1_2, wp_1_2, wf_1_3, wv_1_3, wf_1_4, wv_1_4, wp_1_4, wf_1_5, wv_1_5, wf_1_6, wv_1_6, wf_1_7, wv_1_7, wp_1_7, am_rt_some, am_rt_void, am_rt_none, am_rt_ite, ↓reduceIte, if_true, if_false, and_self, true_and, and_true, true_or, or_true, Bool.false_eq_true, reduceCtorEq]
    refine am_T.rtU (c_make g5 g4) ?_
    intro I3 A3 J3 ⟨f3, y0, b3, y1, y2, y3⟩
    obtain ⟨rfl, y4, y5⟩ := y3 (by omega)
    simp only [sX9_readSigned_27, sX9_readSigned_28, am_rt_some, am_rt_void, am_rt_none, am_rt_ite, ↓reduceIte, if_true, if_false, and_self, true_and, and_true, true_or, or_true, Bool.false_eq_true, reduceCtorEq]
    refine am_T.re ⟨f.tr f3, y0.trans g1, by show p - 1 ≤ (sub p).1; omega, g3, b + 1, y1, y2, Or.inr ⟨rfl, _, rfl, ?_, by omega, ?_, ?_⟩⟩
    · show b + 1 + (p - 1) ≤ a + (sub p).1
      omega
    · intro j hj
      rw [y5 j (by omega), k3 j hj]
    · refine xVal.un (v := v) (k4.congr fun j i1 i2 => y5 j i2) ?_ ?_ ?_
      · rw [y4]
        by_cases z0 : c = 33 <;> simp only [z0, if_true, if_false] <;> decide
      · rw [y4]
        by_cases z0 : c = 33 <;> simp only [z0, if_true, if_false] <;> decide
      · intro nm
        rw [y4]
        by_cases z0 : c = 33
        · simp only [z0, if_true, show ((-7 : Int32) = -8) = False by decide, if_false]
        · simp only [z0, if_false, if_true]
end TQ


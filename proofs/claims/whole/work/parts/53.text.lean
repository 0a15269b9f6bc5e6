/-! THE TAPE: a text; the class's law() -/
section TX
variable {X : Nat × (Nat → Int32)} {d : Nat} {I A : TI} {J : TJ} {w : am_W}
def cLnB (st fe en : Nat → Int32) (l : List LN) (b : Nat) : Prop := ∃ fr mi : Nat → Nat, fr 0 = 0 ∧ fr l.length = b ∧ ∀ j, j < l.length → fe j = nI (mi j) ∧ en j = nI (fr (j + 1)) ∧ fr (j + 1) ≤ b ∧ fr j ≤ mi j ∧ (∀ x, l[j]? = some x → (match x.1 with
  | none => mi j = fr j
  | some c => xVal st (fr j) (mi j) c) ∧ xVal st (mi j) (fr (j + 1)) x.2)
theorem cLnB.to {st fe en : Nat → Int32} {l : List LN} {b : Nat} (h : cLnB st fe en l b) (hb : b ≤ 120) : cLns st fe en l := by
  obtain ⟨fr, mi, h0, -, h⟩ := h
  refine ⟨fr, mi, h0, fun j hj => ?_⟩
  obtain ⟨a1, a2, a3, a4, a5⟩ := h j hj
  exact ⟨a1, a2, by omega, a4, a5⟩
theorem cLns.cg {st fe en st' fe' en' : Nat → Int32} {l : List LN} (hl : l.length ≤ 60) (h : cLns st fe en l) (h1 : ∀ j, j < 120 → st' j = st j) (h2 : ∀ j, j < 60 → fe' j = fe j) (h3 : ∀ j, j < 60 → en' j = en j) : cLns st' fe' en' l := by
  obtain ⟨fr, mi, h0, h⟩ := h
  refine ⟨fr, mi, h0, fun j hj => ?_⟩
  obtain ⟨a1, a2, a3, a4, a5⟩ := h j hj
  refine ⟨(h2 j (by omega)).trans a1, (h3 j (by omega)).trans a2, a3, a4, fun x hx => ?_⟩
  obtain ⟨b1, b2⟩ := a5 x hx
  have := b2.1
  refine ⟨?_, b2.congr fun k k1 k2 => h1 k (by omega)⟩
  cases hx1 : x.1 with
  | none => rw [hx1] at b1; exact b1
  | some c => rw [hx1] at b1; exact xVal.congr b1 fun k k1 k2 => h1 k (by omega)
theorem cLnB.snoc {st fe en st' fe' en' : Nat → Int32} {l : List LN} {ln : LN} {a m b : Nat} (h : cLnB st fe en l a) (h1 : ∀ j, j < a → st' j = st j) (h2 : ∀ j, j < l.length → fe' j = fe j ∧ en' j = en j) (h3 : fe' l.length = nI m) (h4 : en' l.length = nI b) (ham : a ≤ m) (hmb : m < b) (h5 : match ln.1 with
  | none => m = a
  | some c => xVal st' a m c) (h6 : xVal st' m b ln.2) : cLnB st' fe' en' (l ++ [ln]) b := by
  obtain ⟨fr, mi, f0, f1, h⟩ := h
  refine ⟨fun j => if j ≤ l.length then fr j else b, fun j => if j < l.length then mi j else m, ?_, ?_, fun j hj => ?_⟩
  · simp [f0]
  · simp
    intro h
    exact absurd h (by omega)
  · rw [List.length_append, List.length_singleton] at hj
    by_cases q : j < l.length
    · obtain ⟨a1, a2, a3, a4, a5⟩ := h j q
      simp only [q, show j + 1 ≤ l.length by omega, show j ≤ l.length by omega, if_true]
      refine ⟨(h2 j q).1.trans a1, (h2 j q).2.trans a2, by omega, a4, fun x hx => ?_⟩
      rw [List.getElem?_append_left q] at hx
      obtain ⟨b1, b2⟩ := a5 x hx
      have := b2.1
      refine ⟨?_, b2.congr fun k k1 k2 => h1 k (by omega)⟩
      cases hx1 : x.1 with
      | none => rw [hx1] at b1; exact b1
      | some c => rw [hx1] at b1; exact xVal.congr b1 fun k k1 k2 => h1 k (by omega)
    · have e : j = l.length := by omega
      subst e
      simp only [Nat.lt_irrefl, Nat.le_refl, if_true, if_false, show ¬ l.length + 1 ≤ l.length by omega, f1]
      refine ⟨h3, h4, trivial, ham, fun x hx => ?_⟩
      rw [List.getElem?_append_right (Nat.le_refl _), Nat.sub_self] at hx
      cases hx
      exact ⟨h5, h6⟩
def txPost (n : Nat) (r : Nat × Option (List LN)) (I A : TI) (J : TJ) : Int32 → TI → TI → TJ → Prop := fun x I' A' J' => Fr [(1, 2), (1, 4), (1, 7)] [3, 4, 5] [] I A J I' A' J' ∧ r.1 ≤ n ∧ ((∃ l, r = (n, some l) ∧ x = -1 ∧ 0 < l.length ∧ l.length ≤ 60 ∧ I' 1 7 = nI l.length ∧ cLns (A' 3) (A' 4) (A' 5) l) ∨ ((¬ ∃ l, r = (n, some l)) ∧ x = nI r.1))
theorem rd_text {n : Nat} {t : Nat → Int32} (h1 : I 1 1 = nI n) (h2 : A 2 = t) (hn : n ≤ 120) : am_T (am_CL X (d + 53) mX9_readText [.ref 1] (am_wd I A J)) (oE (txPost n (pText t n) I A J)) := by
  have e10 : ((1 : Int32) = 0) = False := by decide
  have bad : ∀ (q : Nat) (cc : Value) (I1 A1 : TI) (J1 : TJ), Fr [(1, 2), (1, 4), (1, 7)] [3, 4, 5] [] I A J I1 A1 J1 → I1 1 2 = nI q → q ≤ n → am_T (am_EV X (d + 52) mX9_readText 62 [.ref 1, .int 0, cc] [] (am_wd I1 A1 J1)) (oE (txPost n (q, none) I A J)) := by
    intro q cc I1 A1 J1 f g1 g2
    simp only [sX9_readText_62, sX9_readText_63, sX9_readText_66, sX9_readText_67, sX9_readText_70, sX9_readText_71, sX9_readText_74, sX9_readText_77, sX9_readText_78, sX9_readText_81, sX9_readText_82, sX9_readText_85, wo_1, wf_1_0, wv_1_0, wf_1_1, wv_1_1, wp_1_1, wf_1_2, wv_1_2, wp_1_2, wf_1_3, wv_1_3, wf_1_4, wv_1_4, wp_1_4, wf_1_5, wv_1_5, wf_1_6, wv_1_6, wf_1_7, wv_1_7, wp_1_7, am_rt_some, am_rt_void, am_rt_none, am_rt_ite, ↓reduceIte, if_true, if_false, and_self, true_and, and_true, true_or, or_true, Bool.false_eq_true, reduceCtorEq, g1]
    exact am_T.re ⟨f, g2, Or.inr ⟨fun ⟨l, hl⟩ => (by cases hl), rfl⟩⟩
  have good : ∀ (q b : Nat) (l : List LN) (cc : Value) (I1 A1 : TI) (J1 : TJ), Fr [(1, 2), (1, 4), (1, 7)] [3, 4, 5] [] I A J I1 A1 J1 → I1 1 2 = nI q → I1 1 7 = nI l.length → q ≤ n → b ≤ q → 2 * l.length ≤ q + 1 → 0 < l.length → cLnB (A1 3) (A1 4) (A1 5) l b → am_T (am_EV X (d + 52) mX9_readText 62 [.ref 1, .int 1, cc] [] (am_wd I1 A1 J1)) (oE (txPost n (q, some l) I A J)) := by
    intro q b l cc I1 A1 J1 f g1 g2 g3 g4 g5 g6 g7
    have hc1 : I1 1 1 = nI n := (f.i 1 1 (by decide)).trans h1
    simp only [sX9_readText_62, sX9_readText_63, sX9_readText_66, sX9_readText_67, sX9_readText_70, sX9_readText_71, sX9_readText_74, sX9_readText_77, sX9_readText_78, sX9_readText_81, sX9_readText_82, sX9_readText_85, wo_1, wf_1_0, wv_1_0, wf_1_1, wv_1_1, wp_1_1, wf_1_2, wv_1_2, wp_1_2, wf_1_3, wv_1_3, wf_1_4, wv_1_4, wp_1_4, wf_1_5, wv_1_5, wf_1_6, wv_1_6, wf_1_7, wv_1_7, wp_1_7, am_rt_some, am_rt_void, am_rt_none, am_rt_ite, ↓reduceIte, if_true, if_false, and_self, true_and, and_true, true_or, or_true, Bool.false_eq_true, reduceCtorEq, e10, g1, hc1, i_eq (show q < 2147483648 by omega) (show n < 2147483648 by omega)]
    by_cases hq : q = n
    · subst hq
      rw [if_pos rfl]
      exact am_T.re ⟨f, g3, Or.inl ⟨l, rfl, rfl, g6, by omega, g2, g7.to (by omega)⟩⟩
    · rw [if_neg hq]
      exact am_T.re ⟨f, g3, Or.inr ⟨fun ⟨l', hl⟩ => hq (congrArg Prod.fst hl), rfl⟩⟩
  have key : ∀ (m c q b : Nat) (l : List LN) (I1 A1 : TI) (J1 : TJ), c + m = 120 → Fr [(1, 2), (1, 4), (1, 7)] [3, 4, 5] [] I A J I1 A1 J1 → I1 1 2 = nI q → I1 1 4 = nI b → I1 1 7 = nI l.length → q ≤ n → b ≤ q → 2 * l.length ≤ q + 1 → 0 < l.length → cLnB (A1 3) (A1 4) (A1 5) l b → am_T (am_EV X (d + 52) mX9_readText 22 [.ref 1, .int 1, .int (nI c)] [] (am_wd I1 A1 J1)) (oE (txPost n (pLs t n m q l) I A J)) := by
    intro m
    induction m with
    | zero =>
      intro c q b l I1 A1 J1 hc f g1 g2 g3 g4 g5 g6 g7 g8
      have hc0 : c = 120 := by omega
      subst hc0
      simp only [sX9_readText_22, sX9_readText_23, sX9_readText_25, am_rt_some, am_rt_void, am_rt_none, am_rt_ite, ↓reduceIte, if_true, if_false, and_self, true_and, and_true, true_or, or_true, Bool.false_eq_true, reduceCtorEq, show (nI 120 < 120) = False by decide]
      exact good q b l _ I1 A1 J1 f g1 g3 g4 g5 g6 g7 g8
    | succ m ih =>
      intro c q b l I1 A1 J1 hc f g1 g2 g3 g4 g5 g6 g7 g8
      have hc1 : I1 1 1 = nI n := (f.i 1 1 (by decide)).trans h1
      have hc2 : A1 2 = t := (f.a 2 (by decide)).trans h2
      have hlt : (nI c < 120) = True := by rw [am_nlit (x := 120) 120 rfl (show c < 2147483648 by omega) (by decide)]; exact eq_true (by omega)
      rw [sX9_readText_22]
      simp only [sX9_readText_23, sX9_readText_25, sX9_readText_28, sX9_readText_29, sX9_readText_32, sX9_readText_33, sX9_readText_36, sX9_readText_38, wo_1, wf_1_0, wv_1_0, wf_1_1, wv_1_1, wp_1_1, wf_1_2, wv_1_2, wp_1_2, wf_1_3, wv_1_3, wf_1_4, wv_1_4, wp_1_4, wf_1_5, wv_1_5, wf_1_6, wv_1_6, wf_1_7, wv_1_7, wp_1_7, am_rt_some, am_rt_void, am_rt_none, am_rt_ite, ↓reduceIte, if_true, if_false, and_self, true_and, and_true, true_or, or_true, Bool.false_eq_true, reduceCtorEq, hlt, e10, c_next hn (show q ≤ 120 by omega) hc1 g1, hc2]
      by_cases hs : lc t n q = 59
      · have hqn := lc_lt hs (by decide)
        have hP : pLs t n (m + 1) q l = (match (pLine t n (q + 1)).2 with
          | none => ((pLine t n (q + 1)).1, none)
          | some x => pLs t n m (pLine t n (q + 1)).1 (l ++ [x])) := if_pos hs
        rw [if_pos hs, hP]
        simp only [sX9_readText_41, sX9_readText_42, sX9_readText_42_r, sX9_readText_43, sX9_readText_46, sX9_readText_47, sX9_readText_48, sX9_readText_51, sX9_readText_52, wo_1, wf_1_0, wv_1_0, wf_1_1, wv_1_1, wp_1_1, wf_1_2, wv_1_2, wp_1_2, wf_1_3, wv_1_3, wf_1_4, wv_1_4, wp_1_4, wf_1_5, wv_1_5, wf_1_6, wv_1_6, wf_1_7, wv_1_7, wp_1_7, am_rt_some, am_rt_void, am_rt_none, am_rt_ite, ↓reduceIte, if_true, if_false, and_self, true_and, and_true, true_or, or_true, Bool.false_eq_true, reduceCtorEq, g1, am_n1]
        refine am_T.rtE (rd_line (p := q + 1) (a := b) (l := l.length) ⟨hc1, hc2, rfl, g2, hn, by omega, by omega⟩ g3 (by omega)) ?_
        intro x I2 A2 J2 ⟨f2, q1, q2, q3, q4⟩
        have f2' : Fr [(1, 2), (1, 4), (1, 7)] [3, 4, 5] [] I A J I2 A2 J2 := (f.ui (by decide)).tr f2
        rcases q4 with ⟨rfl, hno⟩ | ⟨rfl, ln, m', b', z1, z2, z3, z4, z5, z6, z7, z8, z9, z10, z11, z12⟩
        · rw [hno]
          simp only [sX9_readText_55, sX9_readText_56, sX9_readText_59]
          simp only [sX9_readText_22, sX9_readText_23, sX9_readText_25, sX9_readText_28, sX9_readText_29, am_rt_some, am_rt_void, am_rt_none, am_rt_ite, ↓reduceIte, if_true, if_false, and_self, true_and, and_true, true_or, or_true, Bool.false_eq_true, reduceCtorEq, ite_self]
          exact bad _ _ I2 A2 J2 f2' q1 q3
        · rw [z1]
          simp only [sX9_readText_55, sX9_readText_56, sX9_readText_59, am_n1]
          exact ih (c + 1) _ b' (l ++ [ln]) I2 A2 J2 (by omega) f2' q1 z2 (by rw [z6, List.length_append, List.length_singleton]) q3 (by omega) (by rw [List.length_append, List.length_singleton]; omega) (by rw [List.length_append, List.length_singleton]; omega) (g8.snoc z10 z9 z7 z8 z4 z5 z11 z12)
      · have hP : pLs t n (m + 1) q l = (q, some l) := if_neg hs
        rw [if_neg hs, hP]
        exact good q b l _ I1 A1 J1 f g1 g3 g4 g5 g6 g7 g8
  simp only [eX9_readText, sX9_readText_0, sX9_readText_1, sX9_readText_2, sX9_readText_5, sX9_readText_6, sX9_readText_7, sX9_readText_10, sX9_readText_11, sX9_readText_12, sX9_readText_15, sX9_readText_16, wo_1, wf_1_0, wv_1_0, wf_1_1, wv_1_1, wp_1_1, wf_1_2, wv_1_2, wp_1_2, wf_1_3, wv_1_3, wf_1_4, wv_1_4, wp_1_4, wf_1_5, wv_1_5, wf_1_6, wv_1_6, wf_1_7, wv_1_7, wp_1_7, am_rt_some, am_rt_void, am_rt_none, am_rt_ite, ↓reduceIte, if_true, if_false, and_self, true_and, and_true, true_or, or_true, Bool.false_eq_true, reduceCtorEq]
  refine am_T.rtE (rd_line (n := n) (p := 0) (a := 0) (l := 0) (t := t) ⟨h1, h2, rfl, rfl, hn, Nat.zero_le _, Nat.le_refl _⟩ rfl (Nat.le_refl _)) ?_
  intro x I1 A1 J1 ⟨f, q1, q2, q3, q4⟩
  have f' : Fr [(1, 2), (1, 4), (1, 7)] [3, 4, 5] [] I A J I1 A1 J1 := (((Fr.rf.ui (by decide)).ui (by decide)).ui (by decide)).tr f
  rcases q4 with ⟨rfl, hno⟩ | ⟨rfl, ln, m', b', z1, z2, z3, z4, z5, z6, z7, z8, z9, z10, z11, z12⟩
  · have e : pText t n = ((pLine t n 0).1, none) := by unfold pText; rw [hno]
    rw [e]
    simp only [sX9_readText_19, sX9_readText_20, sX9_readText_21, sX9_readText_22, sX9_readText_23, sX9_readText_25, sX9_readText_28, sX9_readText_29, am_rt_some, am_rt_void, am_rt_none, am_rt_ite, ↓reduceIte, if_true, if_false, and_self, true_and, and_true, true_or, or_true, Bool.false_eq_true, reduceCtorEq, ite_self]
    exact bad _ _ I1 A1 J1 f' q1 q3
  · have e : pText t n = pLs t n 120 (pLine t n 0).1 [ln] := by unfold pText; rw [z1]
    rw [e]
    simp only [sX9_readText_19, sX9_readText_20, sX9_readText_21]
    refine key 120 0 _ b' [ln] I1 A1 J1 rfl f' q1 z2 z6 q3 (by omega) ?_ (Nat.succ_pos 0) ?_
    · show 2 * 1 ≤ _ + 1
      omega
    · refine cLnB.snoc (st := A1 3) (fe := A1 4) (en := A1 5) (l := []) (a := 0) ⟨fun _ => 0, fun _ => 0, rfl, rfl, fun j hj => absurd hj (Nat.not_lt_zero j)⟩ (fun j hj => rfl) (fun j hj => ⟨rfl, rfl⟩) z7 z8 z4 z5 z11 z12
theorem am_cpI {n0 n1 : Nat} {f g : Nat → Int32} (sp dp n : Nat) (h0 : sp + n ≤ n0) (h1 : dp + n ≤ n1) (hb : n0 < 2147483648) (hb1 : n1 < 2147483648) : am_cp (.inl (0, n0, .inl f)) (nI sp) (.inl (0, n1, .inl g)) (nI dp) (nI n) = some (.inl (0, n1, .inl (va_cpy f g sp dp n))) := by
  show (if 0 = 0 ∧ 0 = 0 ∧ ¬ nI sp < 0 ∧ ¬ nI dp < 0 ∧ ¬ nI n < 0 ∧ (nI sp).toNatClampNeg + (nI n).toNatClampNeg ≤ n0 ∧ (nI dp).toNatClampNeg + (nI n).toNatClampNeg ≤ n1 then some (Sum.inl (0, n1, Sum.inl (va_cpy f g (nI sp).toNatClampNeg (nI dp).toNatClampNeg (nI n).toNatClampNeg))) else none) = _
  rw [am_ncl (show sp < 2147483648 by omega), am_ncl (show dp < 2147483648 by omega), am_ncl (show n < 2147483648 by omega), if_pos ⟨rfl, rfl, nI_pos (show sp < 2 ^ 31 by omega), nI_pos (show dp < 2 ^ 31 by omega), nI_pos (show n < 2 ^ 31 by omega), h0, h1⟩]
theorem cp_at {f g : Nat → Int32} {n j : Nat} (h : j < n) : va_cpy f g 0 0 n j = f j := by simp [va_cpy, h]
theorem c_lawBecomes : am_CL X (d + 1) mX4_becomes [.ref 7, .ref 1] (am_wd I A J) = some (none, am_wd (am_u2 I 7 3 (I 1 7)) (am_u (am_u (am_u A 8 (va_cpy (A 3) (A 8) 0 0 120)) 9 (va_cpy (A 4) (A 9) 0 0 60)) 10 (va_cpy (A 5) (A 10) 0 0 60)) J) := by
  simp only [eX4_becomes, sX4_becomes_0, sX4_becomes_1, sX4_becomes_4, sX4_becomes_5, sX4_becomes_6, sX4_becomes_9, sX4_becomes_10, wo_1, wf_1_0, wv_1_0, wf_1_1, wv_1_1, wp_1_1, wf_1_2, wv_1_2, wp_1_2, wf_1_3, wv_1_3, wf_1_4, wv_1_4, wp_1_4, wf_1_5, wv_1_5, wf_1_6, wv_1_6, wf_1_7, wv_1_7, wp_1_7, wo_7, wf_7_0, wv_7_0, wf_7_1, wv_7_1, wf_7_2, wv_7_2, wf_7_3, wv_7_3, wp_7_3, wf_7_4, wv_7_4, wf_7_5, wv_7_5, am_rt_some, am_rt_void, am_rt_none, am_rt_ite, ↓reduceIte, if_true, if_false, and_self, true_and, and_true, true_or, or_true, Bool.false_eq_true, reduceCtorEq]
  rw [sX4_becomes_12 (cl := .inl (0, 120, .inl (va_cpy (A 3) (A 8) 0 0 120))) (by rw [wr_3, wr_8]; exact am_cpI 0 0 120 (by decide) (by decide) (by decide) (by decide))]
  simp only [sX4_becomes_15, sX4_becomes_16, sX4_becomes_19, sX4_becomes_20, sX4_becomes_21, sX4_becomes_24, sX4_becomes_25, wo_1, wf_1_0, wv_1_0, wf_1_1, wv_1_1, wp_1_1, wf_1_2, wv_1_2, wp_1_2, wf_1_3, wv_1_3, wf_1_4, wv_1_4, wp_1_4, wf_1_5, wv_1_5, wf_1_6, wv_1_6, wf_1_7, wv_1_7, wp_1_7, wo_7, wf_7_0, wv_7_0, wf_7_1, wv_7_1, wf_7_2, wv_7_2, wf_7_3, wv_7_3, wp_7_3, wf_7_4, wv_7_4, wf_7_5, wv_7_5, wi_8, wg_8, ws_8, ww_8, wl_8, wn_8, am_rt_some, am_rt_void, am_rt_none, am_rt_ite, ↓reduceIte, if_true, if_false, and_self, true_and, and_true, true_or, or_true, Bool.false_eq_true, reduceCtorEq]
  rw [sX4_becomes_27 (cl := .inl (0, 60, .inl (va_cpy (A 4) (A 9) 0 0 60))) (by rw [wr_4, wr_9]; exact am_cpI 0 0 60 (by decide) (by decide) (by decide) (by decide))]
  simp only [sX4_becomes_30, sX4_becomes_31, sX4_becomes_34, sX4_becomes_35, sX4_becomes_36, sX4_becomes_39, sX4_becomes_40, wo_1, wf_1_0, wv_1_0, wf_1_1, wv_1_1, wp_1_1, wf_1_2, wv_1_2, wp_1_2, wf_1_3, wv_1_3, wf_1_4, wv_1_4, wp_1_4, wf_1_5, wv_1_5, wf_1_6, wv_1_6, wf_1_7, wv_1_7, wp_1_7, wo_7, wf_7_0, wv_7_0, wf_7_1, wv_7_1, wf_7_2, wv_7_2, wf_7_3, wv_7_3, wp_7_3, wf_7_4, wv_7_4, wf_7_5, wv_7_5, wi_9, wg_9, ws_9, ww_9, wl_9, wn_9, am_rt_some, am_rt_void, am_rt_none, am_rt_ite, ↓reduceIte, if_true, if_false, and_self, true_and, and_true, true_or, or_true, Bool.false_eq_true, reduceCtorEq]
  rw [sX4_becomes_42 (cl := .inl (0, 60, .inl (va_cpy (A 5) (A 10) 0 0 60))) (by rw [wr_5, wr_10]; exact am_cpI 0 0 60 (by decide) (by decide) (by decide) (by decide))]
  simp only [sX4_becomes_45, sX4_becomes_46, sX4_becomes_47, sX4_becomes_50, sX4_becomes_53, wo_1, wf_1_0, wv_1_0, wf_1_1, wv_1_1, wp_1_1, wf_1_2, wv_1_2, wp_1_2, wf_1_3, wv_1_3, wf_1_4, wv_1_4, wp_1_4, wf_1_5, wv_1_5, wf_1_6, wv_1_6, wf_1_7, wv_1_7, wp_1_7, wo_7, wf_7_0, wv_7_0, wf_7_1, wv_7_1, wf_7_2, wv_7_2, wf_7_3, wv_7_3, wp_7_3, wf_7_4, wv_7_4, wf_7_5, wv_7_5, wi_10, wg_10, ws_10, ww_10, wl_10, wn_10, am_rt_some, am_rt_void, am_rt_none, am_rt_ite, ↓reduceIte, if_true, if_false, and_self, true_and, and_true, true_or, or_true, Bool.false_eq_true, reduceCtorEq]
def lwPost (n : Nat) (r : Nat × Option (List LN)) (I A : TI) (J : TJ) : Int32 → TI → TI → TJ → Prop := fun x I' A' J' => I' 1 1 = 0 ∧ ((∃ l, r = (n, some l) ∧ x = 1 ∧ 0 < l.length ∧ l.length ≤ 60 ∧ I' 7 3 = nI l.length ∧ cLns (A' 8) (A' 9) (A' 10) l ∧ Fr [(1, 1), (1, 2), (1, 4), (1, 7), (7, 3)] [3, 4, 5, 8, 9, 10] [] I A J I' A' J') ∨ ((¬ ∃ l, r = (n, some l)) ∧ x = -100 - nI r.1 ∧ r.1 ≤ n ∧ Fr [(1, 1), (1, 2), (1, 4), (1, 7)] [3, 4, 5] [] I A J I' A' J'))
theorem c_law {n : Nat} {t : Nat → Int32} (h1 : I 1 1 = nI n) (h2 : A 2 = t) (hn : n ≤ 120) : am_T (am_CL X (d + 54) mX10_law [.ref 0] (am_wd I A J)) (oE (lwPost n (pText t n) I A J)) := by
  simp only [eX10_law, sX10_law_0, sX10_law_1, sX10_law_4, wo_0, wf_0_0, wv_0_0, wf_0_1, wv_0_1, wf_0_2, wv_0_2, wf_0_3, wv_0_3, wf_0_4, wv_0_4, wf_0_5, wv_0_5, wf_0_6, wv_0_6, wf_0_7, wv_0_7, wf_0_8, wv_0_8, wf_0_9, wv_0_9, wp_0_9, wf_0_10, wv_0_10, wp_0_10, wf_0_11, wv_0_11, wp_0_11, wo_1, wf_1_0, wv_1_0, wf_1_1, wv_1_1, wp_1_1, wf_1_2, wv_1_2, wp_1_2, wf_1_3, wv_1_3, wf_1_4, wv_1_4, wp_1_4, wf_1_5, wv_1_5, wf_1_6, wv_1_6, wf_1_7, wv_1_7, wp_1_7, am_rt_some, am_rt_void, am_rt_none, am_rt_ite, ↓reduceIte, if_true, if_false, and_self, true_and, and_true, true_or, or_true, Bool.false_eq_true, reduceCtorEq]
  refine am_T.rtE (rd_text h1 h2 hn) ?_
  intro x I1 A1 J1 ⟨f, hle, g⟩
  rcases g with ⟨l, e, rfl, g1, g2, g3, g4⟩ | ⟨hno, rfl⟩
  · simp only [sX10_law_0, sX10_law_1, sX10_law_4, sX10_law_7, sX10_law_8, sX10_law_9, sX10_law_12, sX10_law_13, sX10_law_16, sX10_law_19, sX10_law_20, sX10_law_23, sX10_law_26, sX10_law_27, sX10_law_30, sX10_law_31, sX10_law_34, sX10_law_35, sX10_law_38, sX10_law_39, sX10_law_42, sX10_law_44, sX10_law_45, sX10_law_46, wo_0, wf_0_0, wv_0_0, wf_0_1, wv_0_1, wf_0_2, wv_0_2, wf_0_3, wv_0_3, wf_0_4, wv_0_4, wf_0_5, wv_0_5, wf_0_6, wv_0_6, wf_0_7, wv_0_7, wf_0_8, wv_0_8, wf_0_9, wv_0_9, wp_0_9, wf_0_10, wv_0_10, wp_0_10, wf_0_11, wv_0_11, wp_0_11, wo_1, wf_1_0, wv_1_0, wf_1_1, wv_1_1, wp_1_1, wf_1_2, wv_1_2, wp_1_2, wf_1_3, wv_1_3, wf_1_4, wv_1_4, wp_1_4, wf_1_5, wv_1_5, wf_1_6, wv_1_6, wf_1_7, wv_1_7, wp_1_7, wo_6, wf_6_0, wv_6_0, wf_6_1, wv_6_1, wf_6_2, wv_6_2, wp_6_2, wf_6_3, wv_6_3, wf_6_4, wv_6_4, wf_6_5, wv_6_5, wf_6_6, wv_6_6, wp_6_6, wo_7, wf_7_0, wv_7_0, wf_7_1, wv_7_1, wf_7_2, wv_7_2, wf_7_3, wv_7_3, wp_7_3, wf_7_4, wv_7_4, wf_7_5, wv_7_5, am_rt_some, am_rt_void, am_rt_none, am_rt_ite, ↓reduceIte, if_true, if_false, and_self, true_and, and_true, true_or, or_true, Bool.false_eq_true, reduceCtorEq, c_lawBecomes, show ((-1 : Int32) < 0) = True by decide]
    refine am_T.re ⟨rfl, Or.inl ⟨l, e, rfl, g1, g2, g3, ?_, ?_⟩⟩
    · refine g4.cg g2 (fun j hj => ?_) (fun j hj => ?_) (fun j hj => ?_)
      · exact cp_at hj
      · exact cp_at hj
      · exact cp_at hj
    · exact (((((f.mo (by decide) (by decide) (by decide)).ua (by decide)).ua (by decide)).ua (by decide)).ui (by decide)).ui (by decide)
  · have e0 : (nI (pText t n).1 < 0) = False := am_n0 (by omega)
    simp only [sX10_law_0, sX10_law_1, sX10_law_4, sX10_law_7, sX10_law_8, sX10_law_9, sX10_law_12, sX10_law_13, sX10_law_16, sX10_law_19, sX10_law_20, sX10_law_23, sX10_law_26, sX10_law_27, sX10_law_30, sX10_law_31, sX10_law_34, sX10_law_35, sX10_law_38, sX10_law_39, sX10_law_42, sX10_law_44, sX10_law_45, sX10_law_46, wo_0, wf_0_0, wv_0_0, wf_0_1, wv_0_1, wf_0_2, wv_0_2, wf_0_3, wv_0_3, wf_0_4, wv_0_4, wf_0_5, wv_0_5, wf_0_6, wv_0_6, wf_0_7, wv_0_7, wf_0_8, wv_0_8, wf_0_9, wv_0_9, wp_0_9, wf_0_10, wv_0_10, wp_0_10, wf_0_11, wv_0_11, wp_0_11, wo_1, wf_1_0, wv_1_0, wf_1_1, wv_1_1, wp_1_1, wf_1_2, wv_1_2, wp_1_2, wf_1_3, wv_1_3, wf_1_4, wv_1_4, wp_1_4, wf_1_5, wv_1_5, wf_1_6, wv_1_6, wf_1_7, wv_1_7, wp_1_7, wo_6, wf_6_0, wv_6_0, wf_6_1, wv_6_1, wf_6_2, wv_6_2, wp_6_2, wf_6_3, wv_6_3, wf_6_4, wv_6_4, wf_6_5, wv_6_5, wf_6_6, wv_6_6, wp_6_6, wo_7, wf_7_0, wv_7_0, wf_7_1, wv_7_1, wf_7_2, wv_7_2, wf_7_3, wv_7_3, wp_7_3, wf_7_4, wv_7_4, wf_7_5, wv_7_5, am_rt_some, am_rt_void, am_rt_none, am_rt_ite, ↓reduceIte, if_true, if_false, and_self, true_and, and_true, true_or, or_true, Bool.false_eq_true, reduceCtorEq, e0]
    exact am_T.re ⟨rfl, Or.inr ⟨hno, rfl, hle, (f.mo (by decide) (by decide) (by decide)).ui (by decide)⟩⟩
end TX

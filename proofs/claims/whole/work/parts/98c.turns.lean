/-! by turns: what it is worth; the class's side -/
section TU
variable {X : Nat × (Nat → Int32)} {d : Nat} {I A : TI} {J : TJ} {w : am_W}
/-- the deeds in their order: nothing (4), things 0 to 3 -/
def dd (j : Nat) : Nat := if j = 0 then 4 else j - 1
def dpS (e : Nat) (th : Nat → Int32) : Nat → Int32 := if e = 4 then th else upd th e (th e + 1)
def dpT (G : VF) (st : Nat → Int32) (fi : Int32) (D : Nat) (th ta : Nat → Int32) : Nat → Int32 := fun i => gT G (suF th st i 8) (ta i) (nI D) fi (nI i) (smf th 8)
def okF (th : Nat → Int32) (e : Nat) : Bool := decide (e = 4 ∨ th e < 9)
def plA (near : Bool) (ok : Nat → Bool) (v : Nat → Nat) : Nat → Nat × Nat
  | 0 => (0, 4)
  | n + 1 => if n = 0 ∨ (ok n = true ∧ (near = true ∧ v n < (plA near ok v n).1 ∨ near = false ∧ (plA near ok v n).1 < v n)) then (v n, dd n) else plA near ok v n
def plV (G : VF) (st : Nat → Int32) (fi : Int32) (b : Nat → Int32) : Nat → Nat → (Nat → Int32) → (Nat → Int32) → Nat
  | 0, _, _, ta => fN ta b 5
  | l + 1, D, th, ta => (plA (D % 2 == 0) (fun j => okF th (dd j)) (fun j => plV G st fi b l (D + 1) (dpS (dd j) th) (dpT G st fi D (dpS (dd j) th) ta)) 5).1
def plW (G : VF) (st : Nat → Int32) (fi : Int32) (b : Nat → Int32) (l D : Nat) (th ta : Nat → Int32) : Nat → Nat × Nat := plA (D % 2 == 0) (fun j => okF th (dd j)) (fun j => plV G st fi b l (D + 1) (dpS (dd j) th) (dpT G st fi D (dpS (dd j) th) ta))
theorem plA_cg {near : Bool} {ok ok' : Nat → Bool} {v v' : Nat → Nat} : ∀ {n : Nat}, (∀ j, j < n → ok j = ok' j ∧ v j = v' j) → plA near ok v n = plA near ok' v' n
  | 0, _ => rfl
  | n + 1, h => by
    have ih := plA_cg (near := near) (n := n) (fun j hj => h j (by omega))
    unfold plA
    rw [ih, (h n (by omega)).1, (h n (by omega)).2]
theorem plA_b {near : Bool} {ok : Nat → Bool} {v : Nat → Nat} (h : ∀ j, v j < 1000) : ∀ n, (plA near ok v n).1 < 1000
  | 0 => by show (0 : Nat) < 1000; decide
  | n + 1 => by
    unfold plA
    by_cases q : n = 0 ∨ (ok n = true ∧ (near = true ∧ v n < (plA near ok v n).1 ∨ near = false ∧ (plA near ok v n).1 < v n))
    · rw [if_pos q]; exact h n
    · rw [if_neg q]; exact plA_b h n
theorem dd_lt {j : Nat} (h : j < 5) : dd j ≤ 4 := by
  unfold dd
  by_cases q : j = 0
  · rw [if_pos q]; exact Nat.le_refl _
  · rw [if_neg q]; omega
theorem dpS_cg {th th' : Nat → Int32} {e : Nat} (he : e ≤ 4) (h : ∀ j, j < 8 → th j = th' j) : ∀ j, j < 8 → dpS e th j = dpS e th' j := by
  intro j hj
  unfold dpS
  by_cases q : e = 4
  · rw [if_pos q, if_pos q]; exact h j hj
  · rw [if_neg q, if_neg q]
    by_cases y : j = e
    · subst y; rw [upd_at, upd_at, h j hj]
    · rw [upd_ne y, upd_ne y]; exact h j hj
theorem dpT_cg {G : VF} {st th th' ta ta' : Nat → Int32} {fi : Int32} {D : Nat} (h : ∀ j, j < 8 → th j = th' j) (h2 : ∀ i, i < 5 → ta i = ta' i) : ∀ i, i < 5 → dpT G st fi D th ta i = dpT G st fi D th' ta' i := by
  intro i hi
  unfold dpT
  rw [suF_cg hi (Nat.le_refl 8) h (fun _ _ => rfl), smf_cg h, h2 i hi]
theorem dpT_st {G : VF} {st st' th ta : Nat → Int32} {fi : Int32} {D : Nat} (h : ∀ j, j < 40 → st j = st' j) : ∀ i, i < 5 → dpT G st fi D th ta i = dpT G st' fi D th ta i := by
  intro i hi
  unfold dpT
  rw [suF_cg hi (Nat.le_refl 8) (fun _ _ => rfl) h]
theorem plV_cg {G : VF} {st b b' : Nat → Int32} {fi : Int32} (hb : ∀ i, i < 5 → b i = b' i) : ∀ (l D : Nat) {th th' ta ta' : Nat → Int32}, (∀ j, j < 8 → th j = th' j) → (∀ i, i < 5 → ta i = ta' i) → plV G st fi b l D th ta = plV G st fi b' l D th' ta'
  | 0, _, _, _, _, _, _, h2 => fN_cg (fun i hi => ⟨h2 i hi, hb i hi⟩)
  | l + 1, D, th, th', ta, ta', h1, h2 => by
    unfold plV
    refine congrArg Prod.fst (plA_cg (fun j hj => ⟨?_, ?_⟩))
    · have := dd_lt hj
      unfold okF
      rw [h1 (dd j) (by omega)]
    · exact plV_cg hb l (D + 1) (dpS_cg (dd_lt hj) h1) (dpT_cg (dpS_cg (dd_lt hj) h1) h2)
theorem plV_st {G : VF} {st st' b : Nat → Int32} {fi : Int32} (h : ∀ j, j < 40 → st j = st' j) : ∀ (l D : Nat) (th ta : Nat → Int32), plV G st fi b l D th ta = plV G st' fi b l D th ta
  | 0, _, _, _ => rfl
  | l + 1, D, th, ta => by
    unfold plV
    refine congrArg Prod.fst (plA_cg (fun j hj => ⟨rfl, ?_⟩))
    show plV G st fi b l (D + 1) (dpS (dd j) th) (dpT G st fi D (dpS (dd j) th) ta) = plV G st' fi b l (D + 1) (dpS (dd j) th) (dpT G st' fi D (dpS (dd j) th) ta)
    rw [plV_st h l]
    exact plV_cg (fun _ _ => rfl) l (D + 1) (fun _ _ => rfl) (dpT_st h)
theorem plW_st {G : VF} {st st' b b' : Nat → Int32} {fi : Int32} {l D : Nat} {th th' ta ta' : Nat → Int32} (h : ∀ j, j < 40 → st j = st' j) (hb : ∀ i, i < 5 → b i = b' i) (h1 : ∀ j, j < 8 → th j = th' j) (h2 : ∀ i, i < 5 → ta i = ta' i) : plW G st fi b l D th ta 5 = plW G st' fi b' l D th' ta' 5 := by
  unfold plW
  refine plA_cg (fun j hj => ⟨?_, ?_⟩)
  · have := dd_lt hj
    unfold okF
    rw [h1 (dd j) (by omega)]
  · show plV G st fi b l (D + 1) (dpS (dd j) th) (dpT G st fi D (dpS (dd j) th) ta) = plV G st' fi b' l (D + 1) (dpS (dd j) th') (dpT G st' fi D (dpS (dd j) th') ta')
    rw [plV_st h l]
    refine plV_cg hb l (D + 1) (dpS_cg (dd_lt hj) h1) (fun i hi => ?_)
    rw [dpT_st h i hi]
    exact dpT_cg (dpS_cg (dd_lt hj) h1) h2 i hi
theorem plV_b {G : VF} {st b : Nat → Int32} {fi : Int32} (hb : ∀ i, i < 5 → in99 (b i)) : ∀ (l D : Nat) (th ta : Nat → Int32), (∀ i, i < 5 → in99 (ta i)) → plV G st fi b l D th ta < 1000
  | 0, _, _, ta, h => by
    have := (farF_N (a := ta) (b := b) (Nat.le_refl 5) (fun j hj => ⟨h j hj, hb j hj⟩)).2
    show fN ta b 5 < 1000
    omega
  | l + 1, D, th, ta, h => by
    unfold plV
    exact plA_b (fun j => plV_b hb l (D + 1) _ _ (fun i hi => cl99_in _)) 5
theorem plW_b {G : VF} {st b : Nat → Int32} {fi : Int32} {l D : Nat} {th ta : Nat → Int32} (hb : ∀ i, i < 5 → in99 (b i)) (n : Nat) : (plW G st fi b l D th ta n).1 < 1000 := plA_b (fun j => plV_b hb l (D + 1) _ _ (fun i hi => cl99_in _)) n
theorem dpS_09 {th : Nat → Int32} {e : Nat} (he : e ≤ 4) (h : ∀ j, j < 8 → in09 (th j)) (ok : e = 4 ∨ th e < 9) : ∀ j, j < 8 → in09 (dpS e th j) := by
  intro j hj
  unfold dpS
  by_cases q : e = 4
  · rw [if_pos q]; exact h j hj
  · rw [if_neg q]
    by_cases y : j = e
    · subst y
      rw [upd_at]
      obtain ⟨a, ha, ea⟩ := in09_of (h j hj)
      have lt := ok.resolve_left q
      rw [ea] at lt ⊢
      rw [am_nlit (x := 9) 9 rfl (show a < 2147483648 by omega) (by decide)] at lt
      rw [am_n1]
      exact in09_n (by omega)
    · rw [upd_ne y]; exact h j hj
theorem sa3 : ∀ j, j < 5 → (am_sA 3).getD j 0 = nI (dd j) := by decide
theorem nI4 {e : Nat} (h : e ≤ 4) : (nI e = 4) = (e = 4) := i_eq (b := 4) (by omega) (by decide)


theorem c_isDone20 {G : VF} {e : Nat} (he : e ≤ 4) (hG : cLaw G (A 8) (A 9) (A 10) (I 7 3)) (hth : ∀ j, j < 8 → in09 (A 21 j)) : am_T (am_CL X (d + 6) mX2_isDone [.ref 6, .int (nI e), .ref 20, .ref 24] (am_wd I A J)) (oI (if e = 4 ∨ A 21 e < 9 then 1 else 0) fun I' A' J' => Fr [(24, 2), (24, 4)] [11, 12, 25, 26, 27] [] I A J I' A' J' ∧ ((e = 4 ∨ A 21 e < 9) → (∀ j, j < 8 → A' 25 j = dpS e (A 21) j) ∧ I' 24 2 = mn99 (I 20 2) ∧ ∀ i, i < 5 → A' 26 i = gT G (suF (dpS e (A 21)) (A 13) i 8) (A 22 i) (I 20 2) (I 6 2) (nI i) (smf (dpS e (A 21)) 8))) := by
  have n4 := nI4 he
  obtain ⟨Q, hQ⟩ : ∃ Q, Q = (oI (if e = 4 ∨ A 21 e < 9 then 1 else 0) fun I' A' J' => Fr [(24, 2), (24, 4)] [11, 12, 25, 26, 27] [] I A J I' A' J' ∧ ((e = 4 ∨ A 21 e < 9) → (∀ j, j < 8 → A' 25 j = dpS e (A 21) j) ∧ I' 24 2 = mn99 (I 20 2) ∧ ∀ i, i < 5 → A' 26 i = gT G (suF (dpS e (A 21)) (A 13) i 8) (A 22 i) (I 20 2) (I 6 2) (nI i) (smf (dpS e (A 21)) 8))) := ⟨_, rfl⟩
  rw [← hQ]
  simp only [eX2_isDone, sX2_isDone_0, sX2_isDone_1, am_rt_some, am_rt_void, am_rt_none, am_rt_ite, ↓reduceIte, if_true, if_false, and_self, true_and, and_true, true_or, or_true, Bool.false_eq_true, reduceCtorEq]
  rw [sX2_isDone_2, c_becomes20_24]
  simp only [wo_24, wf_24_0, wv_24_0, wf_24_1, wv_24_1, wf_24_2, wv_24_2, wp_24_2, wf_24_3, wv_24_3, wf_24_4, wv_24_4, wp_24_4, am_rt_some, am_rt_void, am_rt_none, am_rt_ite, ↓reduceIte, if_true, if_false, and_self, true_and, and_true, true_or, or_true, Bool.false_eq_true, reduceCtorEq]
  -- the rest, when the things are there
  have rest : ∀ (A1 : TI), Fr [(24, 2), (24, 4)] [11, 12, 25, 26, 27] [] I A J (am_u2 I 24 2 (I 20 2)) A1 J → (e = 4 ∨ A 21 e < 9) → (∀ j, j < 8 → A1 25 j = dpS e (A 21) j) → (∀ i, i < 5 → A1 26 i = A 22 i) → am_T (am_EV X (d + 5) mX2_isDone 33 [.ref 6, .int (nI e), .ref 20, .ref 24] [] (am_wd (am_u2 I 24 2 (I 20 2)) A1 J)) Q := by
    intro A1 f ok t1 t2
    simp only [sX2_isDone_33, sX2_isDone_34, sX2_isDone_35, wo_6, wf_6_0, wv_6_0, wf_6_1, wv_6_1, wf_6_2, wv_6_2, wp_6_2, wf_6_3, wv_6_3, wf_6_4, wv_6_4, wf_6_5, wv_6_5, wf_6_6, wv_6_6, wp_6_6, am_rt_some, am_rt_void, am_rt_none, am_rt_ite, ↓reduceIte, if_true, if_false, and_self, true_and, and_true, true_or, or_true, Bool.false_eq_true, reduceCtorEq]
    rw [sX2_isDone_38]
    simp only [wo_24, wf_24_0, wv_24_0, wf_24_1, wv_24_1, wf_24_2, wv_24_2, wp_24_2, wf_24_3, wv_24_3, wf_24_4, wv_24_4, wp_24_4, am_rt_some, am_rt_void, am_rt_none, am_rt_ite, ↓reduceIte, if_true, if_false, and_self, true_and, and_true, true_or, or_true, Bool.false_eq_true, reduceCtorEq]
    refine am_T.rtU (c_weigh24 (fun j hj => by rw [t1 j hj]; exact dpS_09 he hth ok j hj)) ?_
    intro I2 A2 J2 ⟨f2, w1, w2⟩
    have j2 : J2 = J := f2.jeq
    subst j2
    have F2 := f.tr (f2.mo (li' := [(24, 2), (24, 4)]) (la' := [11, 12, 25, 26, 27]) (by decide) (by decide) (by decide))
    simp only [sX2_isDone_41, sX2_isDone_42, sX2_isDone_43, sX2_isDone_44, sX2_isDone_45, sX2_isDone_48, sX2_isDone_49, wo_6, wf_6_0, wv_6_0, wf_6_1, wv_6_1, wf_6_2, wv_6_2, wp_6_2, wf_6_3, wv_6_3, wf_6_4, wv_6_4, wf_6_5, wv_6_5, wf_6_6, wv_6_6, wp_6_6, am_rt_some, am_rt_void, am_rt_none, am_rt_ite, ↓reduceIte, if_true, if_false, and_self, true_and, and_true, true_or, or_true, Bool.false_eq_true, reduceCtorEq]
    rw [sX2_isDone_52]
    simp only [wo_24, wf_24_0, wv_24_0, wf_24_1, wv_24_1, wf_24_2, wv_24_2, wp_24_2, wf_24_3, wv_24_3, wf_24_4, wv_24_4, wp_24_4, am_rt_some, am_rt_void, am_rt_none, am_rt_ite, ↓reduceIte, if_true, if_false, and_self, true_and, and_true, true_or, or_true, Bool.false_eq_true, reduceCtorEq]
    refine am_T.rtU (c_pass24 (t_lac F2 (by decide) hG)) ?_
    intro I3 A3 J3 ⟨f3, p1, p2⟩
    have F3 := F2.tr (f3.mo (li' := [(24, 2), (24, 4)]) (la' := [11, 12, 25, 26, 27]) (by decide) (by decide) (by decide))
    have m2 : I2 24 2 = I 20 2 := by rw [f2.i 24 2 (by decide), am_u2_at]
    simp only [sX2_isDone_55, sX2_isDone_56]
    rw [hQ, if_pos ok]
    refine am_T.ri ⟨F3, fun _ => ⟨fun j hj => ?_, ?_, fun i hi => ?_⟩⟩
    · rw [f3.a 25 (by decide), f2.a 25 (by decide), t1 j hj]
    · rw [p1, m2]
    · rw [p2 i hi, w2 i hi, w1, m2, F2.i 6 2 (by decide), f2.a 26 (by decide), t2 i hi, suF_cg (st' := A 13) hi (Nat.le_refl 8) t1 (fun j hj => by rw [f.a 13 (by decide)]), smf_cg t1]
  have F0 : Fr [(24, 2), (24, 4)] [11, 12, 25, 26, 27] [] I A J (am_u2 I 24 2 (I 20 2)) (am_u (am_u A 25 (va_cpy (A 21) (A 25) 0 0 8)) 26 (va_cpy (A 22) (A 26) 0 0 5)) J := (by repeat' (first | exact Fr.rf | assumption | refine Fr.ua ?_ ?_ | refine Fr.ui ?_ ?_ | refine Fr.uj ?_ ?_ | decide))
  have c1 : ∀ j, j < 8 → (am_u (am_u A 25 (va_cpy (A 21) (A 25) 0 0 8)) 26 (va_cpy (A 22) (A 26) 0 0 5)) 25 j = A 21 j := fun j hj => by
    rw [am_u_ne (by decide), am_u_at, cp_at hj]
  have c2 : ∀ i, i < 5 → (am_u (am_u A 25 (va_cpy (A 21) (A 25) 0 0 8)) 26 (va_cpy (A 22) (A 26) 0 0 5)) 26 i = A 22 i := fun i hi => by
    rw [am_u_at, cp_at hi]
  generalize (am_u (am_u A 25 (va_cpy (A 21) (A 25) 0 0 8)) 26 (va_cpy (A 22) (A 26) 0 0 5)) = A1 at F0 c1 c2 ⊢
  by_cases q : e = 4
  · simp only [sX2_isDone_5, sX2_isDone_6, sX2_isDone_7, n4, eq_true q, if_true]
    refine rest A1 F0 (Or.inl q) (fun j hj => ?_) c2
    rw [c1 j hj]; unfold dpS; rw [if_pos q]
  · have e8 : e < 8 := by omega
    by_cases ok : A 21 e < 9
    · simp only [sX2_isDone_5, sX2_isDone_6, sX2_isDone_7, sX2_isDone_10, sX2_isDone_11, sX2_isDone_14, sX2_isDone_15, sX2_isDone_15_f, sX2_isDone_16, sX2_isDone_18, sX2_isDone_21, sX2_isDone_22, sX2_isDone_23, sX2_isDone_24, sX2_isDone_27, sX2_isDone_28, sX2_isDone_29, sX2_isDone_29_f, sX2_isDone_30, sX2_isDone_31, sX2_isDone_32, wo_24, wf_24_0, wv_24_0, wf_24_1, wv_24_1, wf_24_2, wv_24_2, wp_24_2, wf_24_3, wv_24_3, wf_24_4, wv_24_4, wp_24_4, wi_25, wg_25, ws_25, ww_25, wl_25, wn_25, am_rt_some, am_rt_void, am_rt_none, am_rt_ite, ↓reduceIte, if_true, if_false, and_self, true_and, and_true, true_or, or_true, Bool.false_eq_true, reduceCtorEq, n4, q, am_nin e8 (show (8 : Nat) < 2147483648 by omega), am_ncl (show e < 2147483648 by omega), c1 e e8, eq_true ok]
      refine rest (am_u A1 25 (upd (A1 25) e (A 21 e + 1))) (F0.ua (by decide)) (Or.inr ok) (fun j hj => ?_) (fun i hi => by rw [am_u_ne (by decide)]; exact c2 i hi)
      rw [am_u_at]
      unfold dpS
      rw [if_neg q]
      by_cases y : j = e
      · subst y; rw [upd_at, upd_at]
      · rw [upd_ne y, upd_ne y]; exact c1 j hj
    · have nok : ¬ (e = 4 ∨ A 21 e < 9) := fun y => y.elim q ok
      simp only [sX2_isDone_5, sX2_isDone_6, sX2_isDone_7, sX2_isDone_10, sX2_isDone_11, sX2_isDone_14, sX2_isDone_15, sX2_isDone_15_f, sX2_isDone_16, sX2_isDone_18, sX2_isDone_21, sX2_isDone_22, wo_24, wf_24_0, wv_24_0, wf_24_1, wv_24_1, wf_24_2, wv_24_2, wp_24_2, wf_24_3, wv_24_3, wf_24_4, wv_24_4, wp_24_4, wi_25, wg_25, ws_25, ww_25, wl_25, wn_25, am_rt_some, am_rt_void, am_rt_none, am_rt_ite, ↓reduceIte, if_true, if_false, and_self, true_and, and_true, true_or, or_true, Bool.false_eq_true, reduceCtorEq, n4, q, am_nin e8 (show (8 : Nat) < 2147483648 by omega), am_ncl (show e < 2147483648 by omega), c1 e e8, ok]
      rw [hQ, if_neg nok]
      exact am_T.ri ⟨F0, fun y => absurd y nok⟩


theorem c_isDone24 {G : VF} {e : Nat} (he : e ≤ 4) (hG : cLaw G (A 8) (A 9) (A 10) (I 7 3)) (hth : ∀ j, j < 8 → in09 (A 25 j)) : am_T (am_CL X (d + 6) mX2_isDone [.ref 6, .int (nI e), .ref 24, .ref 28] (am_wd I A J)) (oI (if e = 4 ∨ A 25 e < 9 then 1 else 0) fun I' A' J' => Fr [(28, 2), (28, 4)] [11, 12, 29, 30, 31] [] I A J I' A' J' ∧ ((e = 4 ∨ A 25 e < 9) → (∀ j, j < 8 → A' 29 j = dpS e (A 25) j) ∧ I' 28 2 = mn99 (I 24 2) ∧ ∀ i, i < 5 → A' 30 i = gT G (suF (dpS e (A 25)) (A 13) i 8) (A 26 i) (I 24 2) (I 6 2) (nI i) (smf (dpS e (A 25)) 8))) := by
  have n4 := nI4 he
  obtain ⟨Q, hQ⟩ : ∃ Q, Q = (oI (if e = 4 ∨ A 25 e < 9 then 1 else 0) fun I' A' J' => Fr [(28, 2), (28, 4)] [11, 12, 29, 30, 31] [] I A J I' A' J' ∧ ((e = 4 ∨ A 25 e < 9) → (∀ j, j < 8 → A' 29 j = dpS e (A 25) j) ∧ I' 28 2 = mn99 (I 24 2) ∧ ∀ i, i < 5 → A' 30 i = gT G (suF (dpS e (A 25)) (A 13) i 8) (A 26 i) (I 24 2) (I 6 2) (nI i) (smf (dpS e (A 25)) 8))) := ⟨_, rfl⟩
  rw [← hQ]
  simp only [eX2_isDone, sX2_isDone_0, sX2_isDone_1, am_rt_some, am_rt_void, am_rt_none, am_rt_ite, ↓reduceIte, if_true, if_false, and_self, true_and, and_true, true_or, or_true, Bool.false_eq_true, reduceCtorEq]
  rw [sX2_isDone_2, c_becomes24_28]
  simp only [wo_28, wf_28_0, wv_28_0, wf_28_1, wv_28_1, wf_28_2, wv_28_2, wp_28_2, wf_28_3, wv_28_3, wf_28_4, wv_28_4, wp_28_4, am_rt_some, am_rt_void, am_rt_none, am_rt_ite, ↓reduceIte, if_true, if_false, and_self, true_and, and_true, true_or, or_true, Bool.false_eq_true, reduceCtorEq]
  -- the rest, when the things are there
  have rest : ∀ (A1 : TI), Fr [(28, 2), (28, 4)] [11, 12, 29, 30, 31] [] I A J (am_u2 I 28 2 (I 24 2)) A1 J → (e = 4 ∨ A 25 e < 9) → (∀ j, j < 8 → A1 29 j = dpS e (A 25) j) → (∀ i, i < 5 → A1 30 i = A 26 i) → am_T (am_EV X (d + 5) mX2_isDone 33 [.ref 6, .int (nI e), .ref 24, .ref 28] [] (am_wd (am_u2 I 28 2 (I 24 2)) A1 J)) Q := by
    intro A1 f ok t1 t2
    simp only [sX2_isDone_33, sX2_isDone_34, sX2_isDone_35, wo_6, wf_6_0, wv_6_0, wf_6_1, wv_6_1, wf_6_2, wv_6_2, wp_6_2, wf_6_3, wv_6_3, wf_6_4, wv_6_4, wf_6_5, wv_6_5, wf_6_6, wv_6_6, wp_6_6, am_rt_some, am_rt_void, am_rt_none, am_rt_ite, ↓reduceIte, if_true, if_false, and_self, true_and, and_true, true_or, or_true, Bool.false_eq_true, reduceCtorEq]
    rw [sX2_isDone_38]
    simp only [wo_28, wf_28_0, wv_28_0, wf_28_1, wv_28_1, wf_28_2, wv_28_2, wp_28_2, wf_28_3, wv_28_3, wf_28_4, wv_28_4, wp_28_4, am_rt_some, am_rt_void, am_rt_none, am_rt_ite, ↓reduceIte, if_true, if_false, and_self, true_and, and_true, true_or, or_true, Bool.false_eq_true, reduceCtorEq]
    refine am_T.rtU (c_weigh28 (fun j hj => by rw [t1 j hj]; exact dpS_09 he hth ok j hj)) ?_
    intro I2 A2 J2 ⟨f2, w1, w2⟩
    have j2 : J2 = J := f2.jeq
    subst j2
    have F2 := f.tr (f2.mo (li' := [(28, 2), (28, 4)]) (la' := [11, 12, 29, 30, 31]) (by decide) (by decide) (by decide))
    simp only [sX2_isDone_41, sX2_isDone_42, sX2_isDone_43, sX2_isDone_44, sX2_isDone_45, sX2_isDone_48, sX2_isDone_49, wo_6, wf_6_0, wv_6_0, wf_6_1, wv_6_1, wf_6_2, wv_6_2, wp_6_2, wf_6_3, wv_6_3, wf_6_4, wv_6_4, wf_6_5, wv_6_5, wf_6_6, wv_6_6, wp_6_6, am_rt_some, am_rt_void, am_rt_none, am_rt_ite, ↓reduceIte, if_true, if_false, and_self, true_and, and_true, true_or, or_true, Bool.false_eq_true, reduceCtorEq]
    rw [sX2_isDone_52]
    simp only [wo_28, wf_28_0, wv_28_0, wf_28_1, wv_28_1, wf_28_2, wv_28_2, wp_28_2, wf_28_3, wv_28_3, wf_28_4, wv_28_4, wp_28_4, am_rt_some, am_rt_void, am_rt_none, am_rt_ite, ↓reduceIte, if_true, if_false, and_self, true_and, and_true, true_or, or_true, Bool.false_eq_true, reduceCtorEq]
    refine am_T.rtU (c_pass28 (t_lac F2 (by decide) hG)) ?_
    intro I3 A3 J3 ⟨f3, p1, p2⟩
    have F3 := F2.tr (f3.mo (li' := [(28, 2), (28, 4)]) (la' := [11, 12, 29, 30, 31]) (by decide) (by decide) (by decide))
    have m2 : I2 28 2 = I 24 2 := by rw [f2.i 28 2 (by decide), am_u2_at]
    simp only [sX2_isDone_55, sX2_isDone_56]
    rw [hQ, if_pos ok]
    refine am_T.ri ⟨F3, fun _ => ⟨fun j hj => ?_, ?_, fun i hi => ?_⟩⟩
    · rw [f3.a 29 (by decide), f2.a 29 (by decide), t1 j hj]
    · rw [p1, m2]
    · rw [p2 i hi, w2 i hi, w1, m2, F2.i 6 2 (by decide), f2.a 30 (by decide), t2 i hi, suF_cg (st' := A 13) hi (Nat.le_refl 8) t1 (fun j hj => by rw [f.a 13 (by decide)]), smf_cg t1]
  have F0 : Fr [(28, 2), (28, 4)] [11, 12, 29, 30, 31] [] I A J (am_u2 I 28 2 (I 24 2)) (am_u (am_u A 29 (va_cpy (A 25) (A 29) 0 0 8)) 30 (va_cpy (A 26) (A 30) 0 0 5)) J := (by repeat' (first | exact Fr.rf | assumption | refine Fr.ua ?_ ?_ | refine Fr.ui ?_ ?_ | refine Fr.uj ?_ ?_ | decide))
  have c1 : ∀ j, j < 8 → (am_u (am_u A 29 (va_cpy (A 25) (A 29) 0 0 8)) 30 (va_cpy (A 26) (A 30) 0 0 5)) 29 j = A 25 j := fun j hj => by
    rw [am_u_ne (by decide), am_u_at, cp_at hj]
  have c2 : ∀ i, i < 5 → (am_u (am_u A 29 (va_cpy (A 25) (A 29) 0 0 8)) 30 (va_cpy (A 26) (A 30) 0 0 5)) 30 i = A 26 i := fun i hi => by
    rw [am_u_at, cp_at hi]
  generalize (am_u (am_u A 29 (va_cpy (A 25) (A 29) 0 0 8)) 30 (va_cpy (A 26) (A 30) 0 0 5)) = A1 at F0 c1 c2 ⊢
  by_cases q : e = 4
  · simp only [sX2_isDone_5, sX2_isDone_6, sX2_isDone_7, n4, eq_true q, if_true]
    refine rest A1 F0 (Or.inl q) (fun j hj => ?_) c2
    rw [c1 j hj]; unfold dpS; rw [if_pos q]
  · have e8 : e < 8 := by omega
    by_cases ok : A 25 e < 9
    · simp only [sX2_isDone_5, sX2_isDone_6, sX2_isDone_7, sX2_isDone_10, sX2_isDone_11, sX2_isDone_14, sX2_isDone_15, sX2_isDone_15_f, sX2_isDone_16, sX2_isDone_18, sX2_isDone_21, sX2_isDone_22, sX2_isDone_23, sX2_isDone_24, sX2_isDone_27, sX2_isDone_28, sX2_isDone_29, sX2_isDone_29_f, sX2_isDone_30, sX2_isDone_31, sX2_isDone_32, wo_28, wf_28_0, wv_28_0, wf_28_1, wv_28_1, wf_28_2, wv_28_2, wp_28_2, wf_28_3, wv_28_3, wf_28_4, wv_28_4, wp_28_4, wi_29, wg_29, ws_29, ww_29, wl_29, wn_29, am_rt_some, am_rt_void, am_rt_none, am_rt_ite, ↓reduceIte, if_true, if_false, and_self, true_and, and_true, true_or, or_true, Bool.false_eq_true, reduceCtorEq, n4, q, am_nin e8 (show (8 : Nat) < 2147483648 by omega), am_ncl (show e < 2147483648 by omega), c1 e e8, eq_true ok]
      refine rest (am_u A1 29 (upd (A1 29) e (A 25 e + 1))) (F0.ua (by decide)) (Or.inr ok) (fun j hj => ?_) (fun i hi => by rw [am_u_ne (by decide)]; exact c2 i hi)
      rw [am_u_at]
      unfold dpS
      rw [if_neg q]
      by_cases y : j = e
      · subst y; rw [upd_at, upd_at]
      · rw [upd_ne y, upd_ne y]; exact c1 j hj
    · have nok : ¬ (e = 4 ∨ A 25 e < 9) := fun y => y.elim q ok
      simp only [sX2_isDone_5, sX2_isDone_6, sX2_isDone_7, sX2_isDone_10, sX2_isDone_11, sX2_isDone_14, sX2_isDone_15, sX2_isDone_15_f, sX2_isDone_16, sX2_isDone_18, sX2_isDone_21, sX2_isDone_22, wo_28, wf_28_0, wv_28_0, wf_28_1, wv_28_1, wf_28_2, wv_28_2, wp_28_2, wf_28_3, wv_28_3, wf_28_4, wv_28_4, wp_28_4, wi_29, wg_29, ws_29, ww_29, wl_29, wn_29, am_rt_some, am_rt_void, am_rt_none, am_rt_ite, ↓reduceIte, if_true, if_false, and_self, true_and, and_true, true_or, or_true, Bool.false_eq_true, reduceCtorEq, n4, q, am_nin e8 (show (8 : Nat) < 2147483648 by omega), am_ncl (show e < 2147483648 by omega), c1 e e8, ok]
      rw [hQ, if_neg nok]
      exact am_T.ri ⟨F0, fun y => absurd y nok⟩


theorem c_isDone28 {G : VF} {e : Nat} (he : e ≤ 4) (hG : cLaw G (A 8) (A 9) (A 10) (I 7 3)) (hth : ∀ j, j < 8 → in09 (A 29 j)) : am_T (am_CL X (d + 6) mX2_isDone [.ref 6, .int (nI e), .ref 28, .ref 32] (am_wd I A J)) (oI (if e = 4 ∨ A 29 e < 9 then 1 else 0) fun I' A' J' => Fr [(32, 2), (32, 4)] [11, 12, 33, 34, 35] [] I A J I' A' J' ∧ ((e = 4 ∨ A 29 e < 9) → (∀ j, j < 8 → A' 33 j = dpS e (A 29) j) ∧ I' 32 2 = mn99 (I 28 2) ∧ ∀ i, i < 5 → A' 34 i = gT G (suF (dpS e (A 29)) (A 13) i 8) (A 30 i) (I 28 2) (I 6 2) (nI i) (smf (dpS e (A 29)) 8))) := by
  have n4 := nI4 he
  obtain ⟨Q, hQ⟩ : ∃ Q, Q = (oI (if e = 4 ∨ A 29 e < 9 then 1 else 0) fun I' A' J' => Fr [(32, 2), (32, 4)] [11, 12, 33, 34, 35] [] I A J I' A' J' ∧ ((e = 4 ∨ A 29 e < 9) → (∀ j, j < 8 → A' 33 j = dpS e (A 29) j) ∧ I' 32 2 = mn99 (I 28 2) ∧ ∀ i, i < 5 → A' 34 i = gT G (suF (dpS e (A 29)) (A 13) i 8) (A 30 i) (I 28 2) (I 6 2) (nI i) (smf (dpS e (A 29)) 8))) := ⟨_, rfl⟩
  rw [← hQ]
  simp only [eX2_isDone, sX2_isDone_0, sX2_isDone_1, am_rt_some, am_rt_void, am_rt_none, am_rt_ite, ↓reduceIte, if_true, if_false, and_self, true_and, and_true, true_or, or_true, Bool.false_eq_true, reduceCtorEq]
  rw [sX2_isDone_2, c_becomes28_32]
  simp only [wo_32, wf_32_0, wv_32_0, wf_32_1, wv_32_1, wf_32_2, wv_32_2, wp_32_2, wf_32_3, wv_32_3, wf_32_4, wv_32_4, wp_32_4, am_rt_some, am_rt_void, am_rt_none, am_rt_ite, ↓reduceIte, if_true, if_false, and_self, true_and, and_true, true_or, or_true, Bool.false_eq_true, reduceCtorEq]
  -- the rest, when the things are there
  have rest : ∀ (A1 : TI), Fr [(32, 2), (32, 4)] [11, 12, 33, 34, 35] [] I A J (am_u2 I 32 2 (I 28 2)) A1 J → (e = 4 ∨ A 29 e < 9) → (∀ j, j < 8 → A1 33 j = dpS e (A 29) j) → (∀ i, i < 5 → A1 34 i = A 30 i) → am_T (am_EV X (d + 5) mX2_isDone 33 [.ref 6, .int (nI e), .ref 28, .ref 32] [] (am_wd (am_u2 I 32 2 (I 28 2)) A1 J)) Q := by
    intro A1 f ok t1 t2
    simp only [sX2_isDone_33, sX2_isDone_34, sX2_isDone_35, wo_6, wf_6_0, wv_6_0, wf_6_1, wv_6_1, wf_6_2, wv_6_2, wp_6_2, wf_6_3, wv_6_3, wf_6_4, wv_6_4, wf_6_5, wv_6_5, wf_6_6, wv_6_6, wp_6_6, am_rt_some, am_rt_void, am_rt_none, am_rt_ite, ↓reduceIte, if_true, if_false, and_self, true_and, and_true, true_or, or_true, Bool.false_eq_true, reduceCtorEq]
    rw [sX2_isDone_38]
    simp only [wo_32, wf_32_0, wv_32_0, wf_32_1, wv_32_1, wf_32_2, wv_32_2, wp_32_2, wf_32_3, wv_32_3, wf_32_4, wv_32_4, wp_32_4, am_rt_some, am_rt_void, am_rt_none, am_rt_ite, ↓reduceIte, if_true, if_false, and_self, true_and, and_true, true_or, or_true, Bool.false_eq_true, reduceCtorEq]
    refine am_T.rtU (c_weigh32 (fun j hj => by rw [t1 j hj]; exact dpS_09 he hth ok j hj)) ?_
    intro I2 A2 J2 ⟨f2, w1, w2⟩
    have j2 : J2 = J := f2.jeq
    subst j2
    have F2 := f.tr (f2.mo (li' := [(32, 2), (32, 4)]) (la' := [11, 12, 33, 34, 35]) (by decide) (by decide) (by decide))
    simp only [sX2_isDone_41, sX2_isDone_42, sX2_isDone_43, sX2_isDone_44, sX2_isDone_45, sX2_isDone_48, sX2_isDone_49, wo_6, wf_6_0, wv_6_0, wf_6_1, wv_6_1, wf_6_2, wv_6_2, wp_6_2, wf_6_3, wv_6_3, wf_6_4, wv_6_4, wf_6_5, wv_6_5, wf_6_6, wv_6_6, wp_6_6, am_rt_some, am_rt_void, am_rt_none, am_rt_ite, ↓reduceIte, if_true, if_false, and_self, true_and, and_true, true_or, or_true, Bool.false_eq_true, reduceCtorEq]
    rw [sX2_isDone_52]
    simp only [wo_32, wf_32_0, wv_32_0, wf_32_1, wv_32_1, wf_32_2, wv_32_2, wp_32_2, wf_32_3, wv_32_3, wf_32_4, wv_32_4, wp_32_4, am_rt_some, am_rt_void, am_rt_none, am_rt_ite, ↓reduceIte, if_true, if_false, and_self, true_and, and_true, true_or, or_true, Bool.false_eq_true, reduceCtorEq]
    refine am_T.rtU (c_pass32 (t_lac F2 (by decide) hG)) ?_
    intro I3 A3 J3 ⟨f3, p1, p2⟩
    have F3 := F2.tr (f3.mo (li' := [(32, 2), (32, 4)]) (la' := [11, 12, 33, 34, 35]) (by decide) (by decide) (by decide))
    have m2 : I2 32 2 = I 28 2 := by rw [f2.i 32 2 (by decide), am_u2_at]
    simp only [sX2_isDone_55, sX2_isDone_56]
    rw [hQ, if_pos ok]
    refine am_T.ri ⟨F3, fun _ => ⟨fun j hj => ?_, ?_, fun i hi => ?_⟩⟩
    · rw [f3.a 33 (by decide), f2.a 33 (by decide), t1 j hj]
    · rw [p1, m2]
    · rw [p2 i hi, w2 i hi, w1, m2, F2.i 6 2 (by decide), f2.a 34 (by decide), t2 i hi, suF_cg (st' := A 13) hi (Nat.le_refl 8) t1 (fun j hj => by rw [f.a 13 (by decide)]), smf_cg t1]
  have F0 : Fr [(32, 2), (32, 4)] [11, 12, 33, 34, 35] [] I A J (am_u2 I 32 2 (I 28 2)) (am_u (am_u A 33 (va_cpy (A 29) (A 33) 0 0 8)) 34 (va_cpy (A 30) (A 34) 0 0 5)) J := (by repeat' (first | exact Fr.rf | assumption | refine Fr.ua ?_ ?_ | refine Fr.ui ?_ ?_ | refine Fr.uj ?_ ?_ | decide))
  have c1 : ∀ j, j < 8 → (am_u (am_u A 33 (va_cpy (A 29) (A 33) 0 0 8)) 34 (va_cpy (A 30) (A 34) 0 0 5)) 33 j = A 29 j := fun j hj => by
    rw [am_u_ne (by decide), am_u_at, cp_at hj]
  have c2 : ∀ i, i < 5 → (am_u (am_u A 33 (va_cpy (A 29) (A 33) 0 0 8)) 34 (va_cpy (A 30) (A 34) 0 0 5)) 34 i = A 30 i := fun i hi => by
    rw [am_u_at, cp_at hi]
  generalize (am_u (am_u A 33 (va_cpy (A 29) (A 33) 0 0 8)) 34 (va_cpy (A 30) (A 34) 0 0 5)) = A1 at F0 c1 c2 ⊢
  by_cases q : e = 4
  · simp only [sX2_isDone_5, sX2_isDone_6, sX2_isDone_7, n4, eq_true q, if_true]
    refine rest A1 F0 (Or.inl q) (fun j hj => ?_) c2
    rw [c1 j hj]; unfold dpS; rw [if_pos q]
  · have e8 : e < 8 := by omega
    by_cases ok : A 29 e < 9
    · simp only [sX2_isDone_5, sX2_isDone_6, sX2_isDone_7, sX2_isDone_10, sX2_isDone_11, sX2_isDone_14, sX2_isDone_15, sX2_isDone_15_f, sX2_isDone_16, sX2_isDone_18, sX2_isDone_21, sX2_isDone_22, sX2_isDone_23, sX2_isDone_24, sX2_isDone_27, sX2_isDone_28, sX2_isDone_29, sX2_isDone_29_f, sX2_isDone_30, sX2_isDone_31, sX2_isDone_32, wo_32, wf_32_0, wv_32_0, wf_32_1, wv_32_1, wf_32_2, wv_32_2, wp_32_2, wf_32_3, wv_32_3, wf_32_4, wv_32_4, wp_32_4, wi_33, wg_33, ws_33, ww_33, wl_33, wn_33, am_rt_some, am_rt_void, am_rt_none, am_rt_ite, ↓reduceIte, if_true, if_false, and_self, true_and, and_true, true_or, or_true, Bool.false_eq_true, reduceCtorEq, n4, q, am_nin e8 (show (8 : Nat) < 2147483648 by omega), am_ncl (show e < 2147483648 by omega), c1 e e8, eq_true ok]
      refine rest (am_u A1 33 (upd (A1 33) e (A 29 e + 1))) (F0.ua (by decide)) (Or.inr ok) (fun j hj => ?_) (fun i hi => by rw [am_u_ne (by decide)]; exact c2 i hi)
      rw [am_u_at]
      unfold dpS
      rw [if_neg q]
      by_cases y : j = e
      · subst y; rw [upd_at, upd_at]
      · rw [upd_ne y, upd_ne y]; exact c1 j hj
    · have nok : ¬ (e = 4 ∨ A 29 e < 9) := fun y => y.elim q ok
      simp only [sX2_isDone_5, sX2_isDone_6, sX2_isDone_7, sX2_isDone_10, sX2_isDone_11, sX2_isDone_14, sX2_isDone_15, sX2_isDone_15_f, sX2_isDone_16, sX2_isDone_18, sX2_isDone_21, sX2_isDone_22, wo_32, wf_32_0, wv_32_0, wf_32_1, wv_32_1, wf_32_2, wv_32_2, wp_32_2, wf_32_3, wv_32_3, wf_32_4, wv_32_4, wp_32_4, wi_33, wg_33, ws_33, ww_33, wl_33, wn_33, am_rt_some, am_rt_void, am_rt_none, am_rt_ite, ↓reduceIte, if_true, if_false, and_self, true_and, and_true, true_or, or_true, Bool.false_eq_true, reduceCtorEq, n4, q, am_nin e8 (show (8 : Nat) < 2147483648 by omega), am_ncl (show e < 2147483648 by omega), c1 e e8, ok]
      rw [hQ, if_neg nok]
      exact am_T.ri ⟨F0, fun y => absurd y nok⟩


theorem ta0 : am_isA (am_rd (am_wd I A J) 19) 0 = true := rfl
theorem ta1 : am_isA (am_rd (am_wd I A J) 19) 1 = true := rfl
theorem ta2 : am_isA (am_rd (am_wd I A J) 19) 2 = true := rfl
theorem ta3 : am_isA (am_rd (am_wd I A J) 19) 3 = true := rfl
theorem tg0 : am_geA (am_rd (am_wd I A J) 19) 0 = .ref 20 := rfl
theorem tg1 : am_geA (am_rd (am_wd I A J) 19) 1 = .ref 24 := rfl
theorem tg2 : am_geA (am_rd (am_wd I A J) 19) 2 = .ref 28 := rfl
theorem tg3 : am_geA (am_rd (am_wd I A J) 19) 3 = .ref 32 := rfl


theorem c_played3 {G : VF} {N : Nat} (hN : N ≤ 3) (hG : cLaw G (A 8) (A 9) (A 10) (I 7 3)) (h99 : ∀ i, i < 5 → in99 (A 14 i)) (hth : ∀ j, j < 8 → in09 (A 33 j)) (hta : ∀ i, i < 5 → in99 (A 34 i)) (hm : I 32 2 = nI 3) : am_T (am_CL X (d + 7) mX2_played [.ref 6, .int 3, .int (nI N)] (am_wd I A J)) (oI (nI (plV G (A 13) (I 6 2) (A 14) (N - 3) 3 (A 33) (A 34))) fun I' A' J' => Fr [] [] [] I A J I' A' J' ∧ I' 6 6 = I 6 6) := by


  have far : am_T (am_EV X (d + 6) mX2_played 10 [.ref 6, .int 3, .int (nI N), .retAddr 0, .retAddr 0, .retAddr 0, .retAddr 0, .retAddr 0, .retAddr 0, .retAddr 0, .retAddr 0] [] (am_wd I A J)) (oI (nI (fN (A 34) (A 14) 5)) fun I' A' J' => Fr [] [] [] I A J I' A' J' ∧ I' 6 6 = I 6 6) := by
    simp only [sX2_played_10, sX2_played_10_f, sX2_played_11, sX2_played_14, sX2_played_15, sX2_played_16, wo_6, wf_6_0, wv_6_0, wf_6_1, wv_6_1, wf_6_2, wv_6_2, wp_6_2, wf_6_3, wv_6_3, wf_6_4, wv_6_4, wf_6_5, wv_6_5, wf_6_6, wv_6_6, wp_6_6, am_rt_some, am_rt_void, am_rt_none, am_rt_ite, ↓reduceIte, if_true, if_false, and_self, true_and, and_true, true_or, or_true, Bool.false_eq_true, reduceCtorEq, show ((3 : Int32) < 3) = False by decide, ta3, tg3]
    rw [sX2_played_19]
    simp only [sX2_played_20, sX2_played_20_f, sX2_played_21, wo_6, wf_6_0, wv_6_0, wf_6_1, wv_6_1, wf_6_2, wv_6_2, wp_6_2, wf_6_3, wv_6_3, wf_6_4, wv_6_4, wf_6_5, wv_6_5, wf_6_6, wv_6_6, wp_6_6, am_rt_some, am_rt_void, am_rt_none, am_rt_ite, ↓reduceIte, if_true, if_false, and_self, true_and, and_true, true_or, or_true, Bool.false_eq_true, reduceCtorEq, ta3, tg3]
    rw [sX2_played_24]
    simp only [wo_32, wf_32_0, wv_32_0, wf_32_1, wv_32_1, wf_32_2, wv_32_2, wp_32_2, wf_32_3, wv_32_3, wf_32_4, wv_32_4, wp_32_4, am_rt_some, am_rt_void, am_rt_none, am_rt_ite, ↓reduceIte, if_true, if_false, and_self, true_and, and_true, true_or, or_true, Bool.false_eq_true, reduceCtorEq, c_farFrom32, (farF_N (Nat.le_refl 5) (fun j hj => ⟨hta j hj, h99 j hj⟩)).1]
    rw [sX2_played_27]
    exact am_T.ri ⟨Fr.rf, rfl⟩

  have lt : ((3 : Int32) < nI N) = False := by rw [show (3 : Int32) = nI 3 from rfl, am_nlt (by decide) (by omega)]; exact eq_false (by omega)
  simp only [eX2_played, sX2_played_0, sX2_played_1, sX2_played_2, lt, if_false]
  rw [show N - 3 = 0 by omega]
  exact far


theorem c_played2 {G : VF} {N : Nat} (hN : N ≤ 3) (hG : cLaw G (A 8) (A 9) (A 10) (I 7 3)) (h99 : ∀ i, i < 5 → in99 (A 14 i)) (hth : ∀ j, j < 8 → in09 (A 29 j)) (hta : ∀ i, i < 5 → in99 (A 30 i)) (hm : I 28 2 = nI 2) : am_T (am_CL X (d + 8) mX2_played [.ref 6, .int 2, .int (nI N)] (am_wd I A J)) (oI (nI (plV G (A 13) (I 6 2) (A 14) (N - 2) 2 (A 29) (A 30))) fun I' A' J' => Fr [(32, 2), (32, 4), (6, 6)] [11, 12, 33, 34, 35] [] I A J I' A' J' ∧ I' 6 6 = I 6 6) := by


  have far : am_T (am_EV X (d + 7) mX2_played 10 [.ref 6, .int 2, .int (nI N), .retAddr 0, .retAddr 0, .retAddr 0, .retAddr 0, .retAddr 0, .retAddr 0, .retAddr 0, .retAddr 0] [] (am_wd I A J)) (oI (nI (fN (A 30) (A 14) 5)) fun I' A' J' => Fr [(32, 2), (32, 4), (6, 6)] [11, 12, 33, 34, 35] [] I A J I' A' J' ∧ I' 6 6 = I 6 6) := by
    simp only [sX2_played_10, sX2_played_10_f, sX2_played_11, sX2_played_14, sX2_played_15, sX2_played_16, wo_6, wf_6_0, wv_6_0, wf_6_1, wv_6_1, wf_6_2, wv_6_2, wp_6_2, wf_6_3, wv_6_3, wf_6_4, wv_6_4, wf_6_5, wv_6_5, wf_6_6, wv_6_6, wp_6_6, am_rt_some, am_rt_void, am_rt_none, am_rt_ite, ↓reduceIte, if_true, if_false, and_self, true_and, and_true, true_or, or_true, Bool.false_eq_true, reduceCtorEq, show ((3 : Int32) < 2) = False by decide, ta2, tg2]
    rw [sX2_played_19]
    simp only [sX2_played_20, sX2_played_20_f, sX2_played_21, wo_6, wf_6_0, wv_6_0, wf_6_1, wv_6_1, wf_6_2, wv_6_2, wp_6_2, wf_6_3, wv_6_3, wf_6_4, wv_6_4, wf_6_5, wv_6_5, wf_6_6, wv_6_6, wp_6_6, am_rt_some, am_rt_void, am_rt_none, am_rt_ite, ↓reduceIte, if_true, if_false, and_self, true_and, and_true, true_or, or_true, Bool.false_eq_true, reduceCtorEq, ta2, tg2]
    rw [sX2_played_24]
    simp only [wo_28, wf_28_0, wv_28_0, wf_28_1, wv_28_1, wf_28_2, wv_28_2, wp_28_2, wf_28_3, wv_28_3, wf_28_4, wv_28_4, wp_28_4, am_rt_some, am_rt_void, am_rt_none, am_rt_ite, ↓reduceIte, if_true, if_false, and_self, true_and, and_true, true_or, or_true, Bool.false_eq_true, reduceCtorEq, c_farFrom28, (farF_N (Nat.le_refl 5) (fun j hj => ⟨hta j hj, h99 j hj⟩)).1]
    rw [sX2_played_27]
    exact am_T.ri ⟨Fr.rf, rfl⟩


  by_cases nd : 2 < N
  case neg =>
    have lt : ((2 : Int32) < nI N) = False := by rw [show (2 : Int32) = nI 2 from rfl, am_nlt (by decide) (by omega)]; exact eq_false nd
    simp only [eX2_played, sX2_played_0, sX2_played_1, sX2_played_2, lt, if_false]
    rw [show N - 2 = 0 by omega]
    exact far

  have lt : ((2 : Int32) < nI N) = True := by rw [show (2 : Int32) = nI 2 from rfl, am_nlt (by decide) (by omega)]; exact eq_true nd
  have en : N - 2 = (N - 3) + 1 := by omega
  have eV : plV G (A 13) (I 6 2) (A 14) (N - 2) 2 (A 29) (A 30) = (plW G (A 13) (I 6 2) (A 14) (N - 3) 2 (A 29) (A 30) 5).1 := by rw [en]; rfl
  rw [eV]
  have key : ∀ (m j : Nat) (I1 A1 : TI) (z9 z10 : Value), j + m = 5 → Fr [(32, 2), (32, 4), (6, 6)] [11, 12, 33, 34, 35] [] I A J I1 A1 J → I1 6 6 = I 6 6 → am_T (am_EV X (d + 7) mX2_played 59 [.ref 6, .int 2, .int (nI N), .int 1, .int (if j = 0 then 0 else 1), .int (nI (plW G (A 13) (I 6 2) (A 14) (N - 3) 2 (A 29) (A 30) j).1), .float 3, .int 5, .int (nI j), z9, z10] [] (am_wd I1 A1 J)) (oI (nI (plW G (A 13) (I 6 2) (A 14) (N - 3) 2 (A 29) (A 30) 5).1) fun I' A' J' => Fr [(32, 2), (32, 4), (6, 6)] [11, 12, 33, 34, 35] [] I A J I' A' J' ∧ I' 6 6 = I 6 6) := by
    intro m
    induction m with
    | zero =>
      intro j I1 A1 z9 z10 hj f r
      have j5 : j = 5 := by omega
      subst j5
      simp only [sX2_played_59, sX2_played_61, sX2_played_63, sX2_played_165, sX2_played_167, am_rt_some, am_rt_void, am_rt_none, am_rt_ite, ↓reduceIte, if_true, if_false, and_self, true_and, and_true, true_or, or_true, Bool.false_eq_true, reduceCtorEq, show (nI 5 < 5) = False by decide]
      exact am_T.ri ⟨f, r⟩
    | succ m ih =>
      intro j I1 A1 z9 z10 hj f r
      have hlt : (nI j < 5) = True := by rw [am_nlit (x := 5) 5 rfl (show j < 2147483648 by omega) (by decide)]; exact eq_true (by omega)
      have d4 : dd j ≤ 4 := dd_lt (by omega)
      have eth : A1 29 = A 29 := f.a 29 (by decide)
      have eta : A1 30 = A 30 := f.a 30 (by decide)
      have emi : I1 28 2 = I 28 2 := f.i 28 2 (by decide)
      have ns : plW G (A 13) (I 6 2) (A 14) (N - 3) 2 (A 29) (A 30) (j + 1) = if j = 0 ∨ (okF (A 29) (dd j) = true ∧ (true = true ∧ plV G (A 13) (I 6 2) (A 14) (N - 3) 3 (dpS (dd j) (A 29)) (dpT G (A 13) (I 6 2) 2 (dpS (dd j) (A 29)) (A 30)) < (plW G (A 13) (I 6 2) (A 14) (N - 3) 2 (A 29) (A 30) j).1 ∨ true = false ∧ (plW G (A 13) (I 6 2) (A 14) (N - 3) 2 (A 29) (A 30) j).1 < plV G (A 13) (I 6 2) (A 14) (N - 3) 3 (dpS (dd j) (A 29)) (dpT G (A 13) (I 6 2) 2 (dpS (dd j) (A 29)) (A 30)))) then (plV G (A 13) (I 6 2) (A 14) (N - 3) 3 (dpS (dd j) (A 29)) (dpT G (A 13) (I 6 2) 2 (dpS (dd j) (A 29)) (A 30)), dd j) else plW G (A 13) (I 6 2) (A 14) (N - 3) 2 (A 29) (A 30) j := rfl
      have vb : plV G (A 13) (I 6 2) (A 14) (N - 3) 3 (dpS (dd j) (A 29)) (dpT G (A 13) (I 6 2) 2 (dpS (dd j) (A 29)) (A 30)) < 1000 := plV_b h99 _ _ _ _ (fun i hi => cl99_in _)
      have wb := plW_b (G := G) (st := A 13) (fi := I 6 2) (l := N - 3) (D := 2) (th := A 29) (ta := A 30) h99 j
      have ih := ih (j + 1)
      rw [ns] at ih
      have pv : ∀ (A2 I2 : Nat → Nat → Int32), (∀ k, k < 8 → A2 33 k = dpS (dd j) (A 29) k) → (∀ i, i < 5 → A2 34 i = dpT G (A 13) (I 6 2) 2 (dpS (dd j) (A 29)) (A 30) i) → A2 13 = A 13 → I2 6 2 = I 6 2 → A2 14 = A 14 → plV G (A2 13) (I2 6 2) (A2 14) (N - 3) 3 (A2 33) (A2 34) = plV G (A 13) (I 6 2) (A 14) (N - 3) 3 (dpS (dd j) (A 29)) (dpT G (A 13) (I 6 2) 2 (dpS (dd j) (A 29)) (A 30)) := fun A2 I2 h1 h2 h3 h4 h5 => by
        rw [h3, h4, h5]
        exact plV_cg (fun _ _ => rfl) _ _ h1 h2
      generalize plV G (A 13) (I 6 2) (A 14) (N - 3) 3 (dpS (dd j) (A 29)) (dpT G (A 13) (I 6 2) 2 (dpS (dd j) (A 29)) (A 30)) = V at vb ih pv
      generalize plW G (A 13) (I 6 2) (A 14) (N - 3) 2 (A 29) (A 30) j = s at wb ih r ⊢
      rw [if_neg (show ¬ j + 1 = 0 by omega)] at ih
      have ea : (((if j = 0 then 0 else 1) : Int32) = 0) = (j = 0) := by
        by_cases y : j = 0
        · rw [if_pos y]; exact propext ⟨fun _ => y, fun _ => rfl⟩
        · rw [if_neg y]; exact propext ⟨fun z => absurd z (by decide), fun z => absurd z y⟩
      have skip : ∀ (I4 A4 : TI) (z9 z10 : Value), Fr [(32, 2), (32, 4), (6, 6)] [11, 12, 33, 34, 35] [] I A J I4 A4 J → I4 6 6 = I1 6 6 → ¬ j = 0 → ¬ (j = 0 ∨ (okF (A 29) (dd j) = true ∧ (true = true ∧ V < s.1 ∨ true = false ∧ s.1 < V))) → am_T (am_EV X (d + 7) mX2_played 159 [.ref 6, .int 2, .int (nI N), .int 1, .int (if j = 0 then 0 else 1), .int (nI s.1), .float 3, .int 5, .int (nI j), z9, z10] [] (am_wd I4 A4 J)) (oI (nI (plW G (A 13) (I 6 2) (A 14) (N - 3) 2 (A 29) (A 30) 5).1) fun I' A' J' => Fr [(32, 2), (32, 4), (6, 6)] [11, 12, 33, 34, 35] [] I A J I' A' J' ∧ I' 6 6 = I 6 6) := by
        intro I4 A4 z9 z10 f4 r4 j0 y
        rw [if_neg y] at ih
        have nx := ih I4 A4 z9 z10 (by omega) f4 (by rw [r4]; exact r)
        rw [if_neg j0]
        simp only [sX2_played_159, sX2_played_162, am_n1]
        exact nx
      have ok0 : j = 0 → (dd j = 4 ∨ A 29 (dd j) < 9) := fun y => Or.inl (by rw [y]; rfl)
      rw [sX2_played_59]
      simp only [sX2_played_61, sX2_played_63, sX2_played_66, sX2_played_66_f, sX2_played_68, sX2_played_70, sX2_played_70_f, sX2_played_71, sX2_played_73, sX2_played_73_f, sX2_played_74, sX2_played_76, sX2_played_76_f, sX2_played_77, sX2_played_80, wo_6, wf_6_0, wv_6_0, wf_6_1, wv_6_1, wf_6_2, wv_6_2, wp_6_2, wf_6_3, wv_6_3, wf_6_4, wv_6_4, wf_6_5, wv_6_5, wf_6_6, wv_6_6, wp_6_6, am_rt_some, am_rt_void, am_rt_none, am_rt_ite, ↓reduceIte, if_true, if_false, and_self, true_and, and_true, true_or, or_true, Bool.false_eq_true, reduceCtorEq, hlt, so3, sv3, am_nin (show j < 5 by omega) (show (5 : Nat) < 2147483648 by omega), am_ncl (show j < 2147483648 by omega), sa3 j (by omega), ta2, tg2]
      rw [sX2_played_81]
      simp only [sX2_played_82, sX2_played_82_f, sX2_played_83, sX2_played_86, sX2_played_87, sX2_played_88, wo_6, wf_6_0, wv_6_0, wf_6_1, wv_6_1, wf_6_2, wv_6_2, wp_6_2, wf_6_3, wv_6_3, wf_6_4, wv_6_4, wf_6_5, wv_6_5, wf_6_6, wv_6_6, wp_6_6, am_rt_some, am_rt_void, am_rt_none, am_rt_ite, ↓reduceIte, if_true, if_false, and_self, true_and, and_true, true_or, or_true, Bool.false_eq_true, reduceCtorEq, ta2, tg2, show (2 : Int32) + 1 = 3 from rfl]
      rw [sX2_played_89]
      simp only [am_rt_some, am_rt_void, am_rt_none, am_rt_ite, ↓reduceIte, if_true, if_false, and_self, true_and, and_true, true_or, or_true, Bool.false_eq_true, reduceCtorEq, ta3, tg3]
      rw [sX2_played_90]
      simp only [wo_6, wf_6_0, wv_6_0, wf_6_1, wv_6_1, wf_6_2, wv_6_2, wp_6_2, wf_6_3, wv_6_3, wf_6_4, wv_6_4, wf_6_5, wv_6_5, wf_6_6, wv_6_6, wp_6_6, am_rt_some, am_rt_void, am_rt_none, am_rt_ite, ↓reduceIte, if_true, if_false, and_self, true_and, and_true, true_or, or_true, Bool.false_eq_true, reduceCtorEq]
      refine am_T.rtI (c_isDone28 d4 (t_lac f (by decide) hG) (fun k hk => by rw [eth]; exact hth k hk)) ?_
      intro I2 A2 J2 ⟨f2, g2⟩
      have j2 : J2 = J := f2.jeq
      subst j2
      have F2 := f.tr (f2.mo (li' := [(32, 2), (32, 4), (6, 6)]) (la' := [11, 12, 33, 34, 35]) (by decide) (by decide) (by decide))
      have r2 : I2 6 6 = I1 6 6 := f2.i 6 6 (by decide)
      rw [eth] at g2 ⊢
      by_cases ok : dd j = 4 ∨ A 29 (dd j) < 9
      case neg =>
        simp only [ok, if_false, sX2_played_93, sX2_played_96, am_rt_some, am_rt_void, am_rt_none, am_rt_ite, ↓reduceIte, if_true, if_false, and_self, true_and, and_true, true_or, or_true, Bool.false_eq_true, reduceCtorEq]
        exact skip I2 A2 _ _ F2 r2 (fun y => ok (ok0 y)) (fun y => ok (y.elim ok0 (fun z => of_decide_eq_true z.1)))
      have okd : okF (A 29) (dd j) = true := decide_eq_true ok
      obtain ⟨k1, k2, k3⟩ := g2 ok
      rw [emi, hm, mn99_n (by decide)] at k2
      simp only [eq_true ok, if_true, sX2_played_93, sX2_played_96, sX2_played_99, sX2_played_99_f, sX2_played_100, sX2_played_101, sX2_played_102, sX2_played_103, am_rt_some, am_rt_void, am_rt_none, am_rt_ite, ↓reduceIte, if_true, if_false, and_self, true_and, and_true, true_or, or_true, Bool.false_eq_true, reduceCtorEq, show ((1 : Int32) = 0) = False by decide, show (2 : Int32) + 1 = 3 from rfl]
      rw [sX2_played_104]
      simp only [wo_6, wf_6_0, wv_6_0, wf_6_1, wv_6_1, wf_6_2, wv_6_2, wp_6_2, wf_6_3, wv_6_3, wf_6_4, wv_6_4, wf_6_5, wv_6_5, wf_6_6, wv_6_6, wp_6_6, am_rt_some, am_rt_void, am_rt_none, am_rt_ite, ↓reduceIte, if_true, if_false, and_self, true_and, and_true, true_or, or_true, Bool.false_eq_true, reduceCtorEq]
      have k3' : ∀ i, i < 5 → A2 34 i = dpT G (A 13) (I 6 2) 2 (dpS (dd j) (A 29)) (A 30) i := fun i hi => by
        rw [k3 i hi, emi, hm, eta, f.a 13 (by decide), f.i 6 2 (by decide)]; rfl
      refine am_T.rtI (c_played3 hN (t_lac F2 (by decide) hG) (fun i hi => by rw [F2.a 14 (by decide)]; exact h99 i hi) (fun k hk => by rw [k1 k hk]; exact dpS_09 d4 hth ok k hk) (fun i hi => by rw [k3' i hi]; exact cl99_in _) k2) ?_
      intro I3 A3 J3 ⟨f3, r3⟩
      have j3 : J3 = J2 := f3.jeq
      subst j3
      have F3 := F2.tr (f3.mo (li' := [(32, 2), (32, 4), (6, 6)]) (la' := [11, 12, 33, 34, 35]) (by decide) (by decide) (by decide))
      rw [pv A2 I2 k1 k3' (F2.a 13 (by decide)) (F2.i 6 2 (by decide)) (F2.a 14 (by decide))]
      have eL : (nI V < nI s.1) = (V < s.1) := am_nlt (by omega) (by omega)
      have eG : (nI s.1 < nI V) = (s.1 < V) := am_nlt (by omega) (by omega)
      have take : (j = 0 ∨ (okF (A 29) (dd j) = true ∧ (true = true ∧ V < s.1 ∨ true = false ∧ s.1 < V))) → am_T (am_EV X (d + 7) mX2_played 135 [.ref 6, .int 2, .int (nI N), .int 1, .int (if j = 0 then 0 else 1), .int (nI s.1), .float 3, .int 5, .int (nI j), .int (nI (dd j)), .int (nI V)] [] (am_wd I3 A3 J3)) (oI (nI (plW G (A 13) (I 6 2) (A 14) (N - 3) 2 (A 29) (A 30) 5).1) fun I' A' J' => Fr [(32, 2), (32, 4), (6, 6)] [11, 12, 33, 34, 35] [] I A J3 I' A' J' ∧ I' 6 6 = I 6 6) := by
        intro y
        rw [if_pos y] at ih
        have nx := ih (am_u2 I3 6 6 (I3 6 6)) A3 (.int (nI (dd j))) (.int (nI V)) (by omega) (F3.ui (by decide)) (by rw [am_u2_at]; rw [r3, r2]; exact r)
        simp only [sX2_played_135, sX2_played_136, sX2_played_138, sX2_played_140, sX2_played_142, sX2_played_142_f, sX2_played_143, sX2_played_144, sX2_played_147, sX2_played_149, sX2_played_152, sX2_played_152_f, sX2_played_153, sX2_played_156, sX2_played_159, sX2_played_162, wo_6, wf_6_0, wv_6_0, wf_6_1, wv_6_1, wf_6_2, wv_6_2, wp_6_2, wf_6_3, wv_6_3, wf_6_4, wv_6_4, wf_6_5, wv_6_5, wf_6_6, wv_6_6, wp_6_6, am_rt_some, am_rt_void, am_rt_none, am_rt_ite, ↓reduceIte, if_true, if_false, and_self, true_and, and_true, true_or, or_true, Bool.false_eq_true, reduceCtorEq, show ((2 : Int32) = 0) = False by decide, am_n1]
        exact nx
      by_cases y0 : j = 0
      · simp only [sX2_played_107, sX2_played_109, sX2_played_111, ea, eq_true y0, if_true]
        rw [if_pos y0] at take
        exact take (Or.inl y0)
      · simp only [sX2_played_107, sX2_played_109, sX2_played_111, sX2_played_114, sX2_played_115, ea, y0, if_false, show ((1 : Int32) = 0) = False by decide, if_true]
        rw [if_neg y0] at take
        have sk := skip I3 A3 (.int (nI (dd j))) (.int (nI V)) F3 (r3.trans r2) y0
        rw [if_neg y0] at sk
        by_cases y1 : V < s.1
        · simp only [sX2_played_118, sX2_played_120, sX2_played_122, sX2_played_125, sX2_played_128, sX2_played_130, sX2_played_132, eL, eG, y1, if_true]
          exact take (Or.inr ⟨okd, Or.inl ⟨rfl, y1⟩⟩)
        · simp only [sX2_played_118, sX2_played_120, sX2_played_122, sX2_played_125, sX2_played_128, sX2_played_130, sX2_played_132, eL, eG, y1, if_false]
          exact sk (fun z => z.elim y0 (fun z => z.2.elim (fun u => y1 u.2) (fun u => absurd u.1 (by decide))))
  simp only [eX2_played, sX2_played_0, sX2_played_1, sX2_played_2, sX2_played_5, sX2_played_6, sX2_played_7, sX2_played_10, sX2_played_10_f, sX2_played_11, sX2_played_14, sX2_played_15, sX2_played_16, sX2_played_19, sX2_played_20, sX2_played_20_f, sX2_played_21, sX2_played_24, sX2_played_27, sX2_played_28, sX2_played_29, sX2_played_30, sX2_played_31, sX2_played_34, sX2_played_35, sX2_played_38, sX2_played_39, sX2_played_40, sX2_played_41, sX2_played_43, sX2_played_44, sX2_played_46, sX2_played_49, sX2_played_49_f, sX2_played_51, sX2_played_51_f, sX2_played_53, sX2_played_53_f, am_rt_some, am_rt_void, am_rt_none, am_rt_ite, ↓reduceIte, if_true, if_false, and_self, true_and, and_true, true_or, or_true, Bool.false_eq_true, reduceCtorEq, lt, show ((2 : Int32) < 3) = True by decide, show ((2 : Int32) - 2 / 2 * 2 = 0) = True by decide, show ((2 : Int32) = 0) = False by decide, u35]
  simp only [sX2_played_54, sX2_played_56, sX2_played_57, am_rt_some, am_rt_void, am_rt_none, am_rt_ite, ↓reduceIte, if_true, if_false, and_self, true_and, and_true, true_or, or_true, Bool.false_eq_true, reduceCtorEq, sl3]
  exact key 5 0 I A _ _ rfl Fr.rf rfl


theorem c_played1 {G : VF} {N : Nat} (hN : N ≤ 3) (hG : cLaw G (A 8) (A 9) (A 10) (I 7 3)) (h99 : ∀ i, i < 5 → in99 (A 14 i)) (hth : ∀ j, j < 8 → in09 (A 25 j)) (hta : ∀ i, i < 5 → in99 (A 26 i)) (hm : I 24 2 = nI 1) : am_T (am_CL X (d + 9) mX2_played [.ref 6, .int 1, .int (nI N)] (am_wd I A J)) (oI (nI (plV G (A 13) (I 6 2) (A 14) (N - 1) 1 (A 25) (A 26))) fun I' A' J' => Fr [(28, 2), (28, 4), (32, 2), (32, 4), (6, 6)] [11, 12, 29, 30, 31, 33, 34, 35] [] I A J I' A' J' ∧ I' 6 6 = I 6 6) := by


  have far : am_T (am_EV X (d + 8) mX2_played 10 [.ref 6, .int 1, .int (nI N), .retAddr 0, .retAddr 0, .retAddr 0, .retAddr 0, .retAddr 0, .retAddr 0, .retAddr 0, .retAddr 0] [] (am_wd I A J)) (oI (nI (fN (A 26) (A 14) 5)) fun I' A' J' => Fr [(28, 2), (28, 4), (32, 2), (32, 4), (6, 6)] [11, 12, 29, 30, 31, 33, 34, 35] [] I A J I' A' J' ∧ I' 6 6 = I 6 6) := by
    simp only [sX2_played_10, sX2_played_10_f, sX2_played_11, sX2_played_14, sX2_played_15, sX2_played_16, wo_6, wf_6_0, wv_6_0, wf_6_1, wv_6_1, wf_6_2, wv_6_2, wp_6_2, wf_6_3, wv_6_3, wf_6_4, wv_6_4, wf_6_5, wv_6_5, wf_6_6, wv_6_6, wp_6_6, am_rt_some, am_rt_void, am_rt_none, am_rt_ite, ↓reduceIte, if_true, if_false, and_self, true_and, and_true, true_or, or_true, Bool.false_eq_true, reduceCtorEq, show ((3 : Int32) < 1) = False by decide, ta1, tg1]
    rw [sX2_played_19]
    simp only [sX2_played_20, sX2_played_20_f, sX2_played_21, wo_6, wf_6_0, wv_6_0, wf_6_1, wv_6_1, wf_6_2, wv_6_2, wp_6_2, wf_6_3, wv_6_3, wf_6_4, wv_6_4, wf_6_5, wv_6_5, wf_6_6, wv_6_6, wp_6_6, am_rt_some, am_rt_void, am_rt_none, am_rt_ite, ↓reduceIte, if_true, if_false, and_self, true_and, and_true, true_or, or_true, Bool.false_eq_true, reduceCtorEq, ta1, tg1]
    rw [sX2_played_24]
    simp only [wo_24, wf_24_0, wv_24_0, wf_24_1, wv_24_1, wf_24_2, wv_24_2, wp_24_2, wf_24_3, wv_24_3, wf_24_4, wv_24_4, wp_24_4, am_rt_some, am_rt_void, am_rt_none, am_rt_ite, ↓reduceIte, if_true, if_false, and_self, true_and, and_true, true_or, or_true, Bool.false_eq_true, reduceCtorEq, c_farFrom24, (farF_N (Nat.le_refl 5) (fun j hj => ⟨hta j hj, h99 j hj⟩)).1]
    rw [sX2_played_27]
    exact am_T.ri ⟨Fr.rf, rfl⟩


  by_cases nd : 1 < N
  case neg =>
    have lt : ((1 : Int32) < nI N) = False := by rw [show (1 : Int32) = nI 1 from rfl, am_nlt (by decide) (by omega)]; exact eq_false nd
    simp only [eX2_played, sX2_played_0, sX2_played_1, sX2_played_2, lt, if_false]
    rw [show N - 1 = 0 by omega]
    exact far

  have lt : ((1 : Int32) < nI N) = True := by rw [show (1 : Int32) = nI 1 from rfl, am_nlt (by decide) (by omega)]; exact eq_true nd
  have en : N - 1 = (N - 2) + 1 := by omega
  have eV : plV G (A 13) (I 6 2) (A 14) (N - 1) 1 (A 25) (A 26) = (plW G (A 13) (I 6 2) (A 14) (N - 2) 1 (A 25) (A 26) 5).1 := by rw [en]; rfl
  rw [eV]
  have key : ∀ (m j : Nat) (I1 A1 : TI) (z9 z10 : Value), j + m = 5 → Fr [(28, 2), (28, 4), (32, 2), (32, 4), (6, 6)] [11, 12, 29, 30, 31, 33, 34, 35] [] I A J I1 A1 J → I1 6 6 = I 6 6 → am_T (am_EV X (d + 8) mX2_played 59 [.ref 6, .int 1, .int (nI N), .int 0, .int (if j = 0 then 0 else 1), .int (nI (plW G (A 13) (I 6 2) (A 14) (N - 2) 1 (A 25) (A 26) j).1), .float 3, .int 5, .int (nI j), z9, z10] [] (am_wd I1 A1 J)) (oI (nI (plW G (A 13) (I 6 2) (A 14) (N - 2) 1 (A 25) (A 26) 5).1) fun I' A' J' => Fr [(28, 2), (28, 4), (32, 2), (32, 4), (6, 6)] [11, 12, 29, 30, 31, 33, 34, 35] [] I A J I' A' J' ∧ I' 6 6 = I 6 6) := by
    intro m
    induction m with
    | zero =>
      intro j I1 A1 z9 z10 hj f r
      have j5 : j = 5 := by omega
      subst j5
      simp only [sX2_played_59, sX2_played_61, sX2_played_63, sX2_played_165, sX2_played_167, am_rt_some, am_rt_void, am_rt_none, am_rt_ite, ↓reduceIte, if_true, if_false, and_self, true_and, and_true, true_or, or_true, Bool.false_eq_true, reduceCtorEq, show (nI 5 < 5) = False by decide]
      exact am_T.ri ⟨f, r⟩
    | succ m ih =>
      intro j I1 A1 z9 z10 hj f r
      have hlt : (nI j < 5) = True := by rw [am_nlit (x := 5) 5 rfl (show j < 2147483648 by omega) (by decide)]; exact eq_true (by omega)
      have d4 : dd j ≤ 4 := dd_lt (by omega)
      have eth : A1 25 = A 25 := f.a 25 (by decide)
      have eta : A1 26 = A 26 := f.a 26 (by decide)
      have emi : I1 24 2 = I 24 2 := f.i 24 2 (by decide)
      have ns : plW G (A 13) (I 6 2) (A 14) (N - 2) 1 (A 25) (A 26) (j + 1) = if j = 0 ∨ (okF (A 25) (dd j) = true ∧ (false = true ∧ plV G (A 13) (I 6 2) (A 14) (N - 2) 2 (dpS (dd j) (A 25)) (dpT G (A 13) (I 6 2) 1 (dpS (dd j) (A 25)) (A 26)) < (plW G (A 13) (I 6 2) (A 14) (N - 2) 1 (A 25) (A 26) j).1 ∨ false = false ∧ (plW G (A 13) (I 6 2) (A 14) (N - 2) 1 (A 25) (A 26) j).1 < plV G (A 13) (I 6 2) (A 14) (N - 2) 2 (dpS (dd j) (A 25)) (dpT G (A 13) (I 6 2) 1 (dpS (dd j) (A 25)) (A 26)))) then (plV G (A 13) (I 6 2) (A 14) (N - 2) 2 (dpS (dd j) (A 25)) (dpT G (A 13) (I 6 2) 1 (dpS (dd j) (A 25)) (A 26)), dd j) else plW G (A 13) (I 6 2) (A 14) (N - 2) 1 (A 25) (A 26) j := rfl
      have vb : plV G (A 13) (I 6 2) (A 14) (N - 2) 2 (dpS (dd j) (A 25)) (dpT G (A 13) (I 6 2) 1 (dpS (dd j) (A 25)) (A 26)) < 1000 := plV_b h99 _ _ _ _ (fun i hi => cl99_in _)
      have wb := plW_b (G := G) (st := A 13) (fi := I 6 2) (l := N - 2) (D := 1) (th := A 25) (ta := A 26) h99 j
      have ih := ih (j + 1)
      rw [ns] at ih
      have pv : ∀ (A2 I2 : Nat → Nat → Int32), (∀ k, k < 8 → A2 29 k = dpS (dd j) (A 25) k) → (∀ i, i < 5 → A2 30 i = dpT G (A 13) (I 6 2) 1 (dpS (dd j) (A 25)) (A 26) i) → A2 13 = A 13 → I2 6 2 = I 6 2 → A2 14 = A 14 → plV G (A2 13) (I2 6 2) (A2 14) (N - 2) 2 (A2 29) (A2 30) = plV G (A 13) (I 6 2) (A 14) (N - 2) 2 (dpS (dd j) (A 25)) (dpT G (A 13) (I 6 2) 1 (dpS (dd j) (A 25)) (A 26)) := fun A2 I2 h1 h2 h3 h4 h5 => by
        rw [h3, h4, h5]
        exact plV_cg (fun _ _ => rfl) _ _ h1 h2
      generalize plV G (A 13) (I 6 2) (A 14) (N - 2) 2 (dpS (dd j) (A 25)) (dpT G (A 13) (I 6 2) 1 (dpS (dd j) (A 25)) (A 26)) = V at vb ih pv
      generalize plW G (A 13) (I 6 2) (A 14) (N - 2) 1 (A 25) (A 26) j = s at wb ih r ⊢
      rw [if_neg (show ¬ j + 1 = 0 by omega)] at ih
      have ea : (((if j = 0 then 0 else 1) : Int32) = 0) = (j = 0) := by
        by_cases y : j = 0
        · rw [if_pos y]; exact propext ⟨fun _ => y, fun _ => rfl⟩
        · rw [if_neg y]; exact propext ⟨fun z => absurd z (by decide), fun z => absurd z y⟩
      have skip : ∀ (I4 A4 : TI) (z9 z10 : Value), Fr [(28, 2), (28, 4), (32, 2), (32, 4), (6, 6)] [11, 12, 29, 30, 31, 33, 34, 35] [] I A J I4 A4 J → I4 6 6 = I1 6 6 → ¬ j = 0 → ¬ (j = 0 ∨ (okF (A 25) (dd j) = true ∧ (false = true ∧ V < s.1 ∨ false = false ∧ s.1 < V))) → am_T (am_EV X (d + 8) mX2_played 159 [.ref 6, .int 1, .int (nI N), .int 0, .int (if j = 0 then 0 else 1), .int (nI s.1), .float 3, .int 5, .int (nI j), z9, z10] [] (am_wd I4 A4 J)) (oI (nI (plW G (A 13) (I 6 2) (A 14) (N - 2) 1 (A 25) (A 26) 5).1) fun I' A' J' => Fr [(28, 2), (28, 4), (32, 2), (32, 4), (6, 6)] [11, 12, 29, 30, 31, 33, 34, 35] [] I A J I' A' J' ∧ I' 6 6 = I 6 6) := by
        intro I4 A4 z9 z10 f4 r4 j0 y
        rw [if_neg y] at ih
        have nx := ih I4 A4 z9 z10 (by omega) f4 (by rw [r4]; exact r)
        rw [if_neg j0]
        simp only [sX2_played_159, sX2_played_162, am_n1]
        exact nx
      have ok0 : j = 0 → (dd j = 4 ∨ A 25 (dd j) < 9) := fun y => Or.inl (by rw [y]; rfl)
      rw [sX2_played_59]
      simp only [sX2_played_61, sX2_played_63, sX2_played_66, sX2_played_66_f, sX2_played_68, sX2_played_70, sX2_played_70_f, sX2_played_71, sX2_played_73, sX2_played_73_f, sX2_played_74, sX2_played_76, sX2_played_76_f, sX2_played_77, sX2_played_80, wo_6, wf_6_0, wv_6_0, wf_6_1, wv_6_1, wf_6_2, wv_6_2, wp_6_2, wf_6_3, wv_6_3, wf_6_4, wv_6_4, wf_6_5, wv_6_5, wf_6_6, wv_6_6, wp_6_6, am_rt_some, am_rt_void, am_rt_none, am_rt_ite, ↓reduceIte, if_true, if_false, and_self, true_and, and_true, true_or, or_true, Bool.false_eq_true, reduceCtorEq, hlt, so3, sv3, am_nin (show j < 5 by omega) (show (5 : Nat) < 2147483648 by omega), am_ncl (show j < 2147483648 by omega), sa3 j (by omega), ta1, tg1]
      rw [sX2_played_81]
      simp only [sX2_played_82, sX2_played_82_f, sX2_played_83, sX2_played_86, sX2_played_87, sX2_played_88, wo_6, wf_6_0, wv_6_0, wf_6_1, wv_6_1, wf_6_2, wv_6_2, wp_6_2, wf_6_3, wv_6_3, wf_6_4, wv_6_4, wf_6_5, wv_6_5, wf_6_6, wv_6_6, wp_6_6, am_rt_some, am_rt_void, am_rt_none, am_rt_ite, ↓reduceIte, if_true, if_false, and_self, true_and, and_true, true_or, or_true, Bool.false_eq_true, reduceCtorEq, ta1, tg1, show (1 : Int32) + 1 = 2 from rfl]
      rw [sX2_played_89]
      simp only [am_rt_some, am_rt_void, am_rt_none, am_rt_ite, ↓reduceIte, if_true, if_false, and_self, true_and, and_true, true_or, or_true, Bool.false_eq_true, reduceCtorEq, ta2, tg2]
      rw [sX2_played_90]
      simp only [wo_6, wf_6_0, wv_6_0, wf_6_1, wv_6_1, wf_6_2, wv_6_2, wp_6_2, wf_6_3, wv_6_3, wf_6_4, wv_6_4, wf_6_5, wv_6_5, wf_6_6, wv_6_6, wp_6_6, am_rt_some, am_rt_void, am_rt_none, am_rt_ite, ↓reduceIte, if_true, if_false, and_self, true_and, and_true, true_or, or_true, Bool.false_eq_true, reduceCtorEq]
      refine am_T.rtI (c_isDone24 d4 (t_lac f (by decide) hG) (fun k hk => by rw [eth]; exact hth k hk)) ?_
      intro I2 A2 J2 ⟨f2, g2⟩
      have j2 : J2 = J := f2.jeq
      subst j2
      have F2 := f.tr (f2.mo (li' := [(28, 2), (28, 4), (32, 2), (32, 4), (6, 6)]) (la' := [11, 12, 29, 30, 31, 33, 34, 35]) (by decide) (by decide) (by decide))
      have r2 : I2 6 6 = I1 6 6 := f2.i 6 6 (by decide)
      rw [eth] at g2 ⊢
      by_cases ok : dd j = 4 ∨ A 25 (dd j) < 9
      case neg =>
        simp only [ok, if_false, sX2_played_93, sX2_played_96, am_rt_some, am_rt_void, am_rt_none, am_rt_ite, ↓reduceIte, if_true, if_false, and_self, true_and, and_true, true_or, or_true, Bool.false_eq_true, reduceCtorEq]
        exact skip I2 A2 _ _ F2 r2 (fun y => ok (ok0 y)) (fun y => ok (y.elim ok0 (fun z => of_decide_eq_true z.1)))
      have okd : okF (A 25) (dd j) = true := decide_eq_true ok
      obtain ⟨k1, k2, k3⟩ := g2 ok
      rw [emi, hm, mn99_n (by decide)] at k2
      simp only [eq_true ok, if_true, sX2_played_93, sX2_played_96, sX2_played_99, sX2_played_99_f, sX2_played_100, sX2_played_101, sX2_played_102, sX2_played_103, am_rt_some, am_rt_void, am_rt_none, am_rt_ite, ↓reduceIte, if_true, if_false, and_self, true_and, and_true, true_or, or_true, Bool.false_eq_true, reduceCtorEq, show ((1 : Int32) = 0) = False by decide, show (1 : Int32) + 1 = 2 from rfl]
      rw [sX2_played_104]
      simp only [wo_6, wf_6_0, wv_6_0, wf_6_1, wv_6_1, wf_6_2, wv_6_2, wp_6_2, wf_6_3, wv_6_3, wf_6_4, wv_6_4, wf_6_5, wv_6_5, wf_6_6, wv_6_6, wp_6_6, am_rt_some, am_rt_void, am_rt_none, am_rt_ite, ↓reduceIte, if_true, if_false, and_self, true_and, and_true, true_or, or_true, Bool.false_eq_true, reduceCtorEq]
      have k3' : ∀ i, i < 5 → A2 30 i = dpT G (A 13) (I 6 2) 1 (dpS (dd j) (A 25)) (A 26) i := fun i hi => by
        rw [k3 i hi, emi, hm, eta, f.a 13 (by decide), f.i 6 2 (by decide)]; rfl
      refine am_T.rtI (c_played2 hN (t_lac F2 (by decide) hG) (fun i hi => by rw [F2.a 14 (by decide)]; exact h99 i hi) (fun k hk => by rw [k1 k hk]; exact dpS_09 d4 hth ok k hk) (fun i hi => by rw [k3' i hi]; exact cl99_in _) k2) ?_
      intro I3 A3 J3 ⟨f3, r3⟩
      have j3 : J3 = J2 := f3.jeq
      subst j3
      have F3 := F2.tr (f3.mo (li' := [(28, 2), (28, 4), (32, 2), (32, 4), (6, 6)]) (la' := [11, 12, 29, 30, 31, 33, 34, 35]) (by decide) (by decide) (by decide))
      rw [pv A2 I2 k1 k3' (F2.a 13 (by decide)) (F2.i 6 2 (by decide)) (F2.a 14 (by decide))]
      have eL : (nI V < nI s.1) = (V < s.1) := am_nlt (by omega) (by omega)
      have eG : (nI s.1 < nI V) = (s.1 < V) := am_nlt (by omega) (by omega)
      have take : (j = 0 ∨ (okF (A 25) (dd j) = true ∧ (false = true ∧ V < s.1 ∨ false = false ∧ s.1 < V))) → am_T (am_EV X (d + 8) mX2_played 135 [.ref 6, .int 1, .int (nI N), .int 0, .int (if j = 0 then 0 else 1), .int (nI s.1), .float 3, .int 5, .int (nI j), .int (nI (dd j)), .int (nI V)] [] (am_wd I3 A3 J3)) (oI (nI (plW G (A 13) (I 6 2) (A 14) (N - 2) 1 (A 25) (A 26) 5).1) fun I' A' J' => Fr [(28, 2), (28, 4), (32, 2), (32, 4), (6, 6)] [11, 12, 29, 30, 31, 33, 34, 35] [] I A J3 I' A' J' ∧ I' 6 6 = I 6 6) := by
        intro y
        rw [if_pos y] at ih
        have nx := ih (am_u2 I3 6 6 (I3 6 6)) A3 (.int (nI (dd j))) (.int (nI V)) (by omega) (F3.ui (by decide)) (by rw [am_u2_at]; rw [r3, r2]; exact r)
        simp only [sX2_played_135, sX2_played_136, sX2_played_138, sX2_played_140, sX2_played_142, sX2_played_142_f, sX2_played_143, sX2_played_144, sX2_played_147, sX2_played_149, sX2_played_152, sX2_played_152_f, sX2_played_153, sX2_played_156, sX2_played_159, sX2_played_162, wo_6, wf_6_0, wv_6_0, wf_6_1, wv_6_1, wf_6_2, wv_6_2, wp_6_2, wf_6_3, wv_6_3, wf_6_4, wv_6_4, wf_6_5, wv_6_5, wf_6_6, wv_6_6, wp_6_6, am_rt_some, am_rt_void, am_rt_none, am_rt_ite, ↓reduceIte, if_true, if_false, and_self, true_and, and_true, true_or, or_true, Bool.false_eq_true, reduceCtorEq, show ((1 : Int32) = 0) = False by decide, am_n1]
        exact nx
      by_cases y0 : j = 0
      · simp only [sX2_played_107, sX2_played_109, sX2_played_111, ea, eq_true y0, if_true]
        rw [if_pos y0] at take
        exact take (Or.inl y0)
      · simp only [sX2_played_107, sX2_played_109, sX2_played_111, sX2_played_114, sX2_played_115, ea, y0, if_false, show ((0 : Int32) = 0) = True by decide, if_true]
        rw [if_neg y0] at take
        have sk := skip I3 A3 (.int (nI (dd j))) (.int (nI V)) F3 (r3.trans r2) y0
        rw [if_neg y0] at sk
        by_cases y1 : s.1 < V
        · simp only [sX2_played_118, sX2_played_120, sX2_played_122, sX2_played_125, sX2_played_128, sX2_played_130, sX2_played_132, eL, eG, y1, if_true]
          exact take (Or.inr ⟨okd, Or.inr ⟨rfl, y1⟩⟩)
        · simp only [sX2_played_118, sX2_played_120, sX2_played_122, sX2_played_125, sX2_played_128, sX2_played_130, sX2_played_132, eL, eG, y1, if_false]
          exact sk (fun z => z.elim y0 (fun z => z.2.elim (fun u => absurd u.1 (by decide)) (fun u => y1 u.2)))
  simp only [eX2_played, sX2_played_0, sX2_played_1, sX2_played_2, sX2_played_5, sX2_played_6, sX2_played_7, sX2_played_10, sX2_played_10_f, sX2_played_11, sX2_played_14, sX2_played_15, sX2_played_16, sX2_played_19, sX2_played_20, sX2_played_20_f, sX2_played_21, sX2_played_24, sX2_played_27, sX2_played_28, sX2_played_29, sX2_played_30, sX2_played_31, sX2_played_34, sX2_played_35, sX2_played_38, sX2_played_39, sX2_played_40, sX2_played_41, sX2_played_43, sX2_played_44, sX2_played_46, sX2_played_49, sX2_played_49_f, sX2_played_51, sX2_played_51_f, sX2_played_53, sX2_played_53_f, am_rt_some, am_rt_void, am_rt_none, am_rt_ite, ↓reduceIte, if_true, if_false, and_self, true_and, and_true, true_or, or_true, Bool.false_eq_true, reduceCtorEq, lt, show ((1 : Int32) < 3) = True by decide, show ((1 : Int32) - 1 / 2 * 2 = 0) = False by decide, show ((2 : Int32) = 0) = False by decide, u35]
  simp only [sX2_played_54, sX2_played_56, sX2_played_57, am_rt_some, am_rt_void, am_rt_none, am_rt_ite, ↓reduceIte, if_true, if_false, and_self, true_and, and_true, true_or, or_true, Bool.false_eq_true, reduceCtorEq, sl3]
  exact key 5 0 I A _ _ rfl Fr.rf rfl


theorem c_played0 {G : VF} {N : Nat} (hN : N ≤ 3) (h1 : 0 < N) (hG : cLaw G (A 8) (A 9) (A 10) (I 7 3)) (h99 : ∀ i, i < 5 → in99 (A 14 i)) (hth : ∀ j, j < 8 → in09 (A 21 j)) (hta : ∀ i, i < 5 → in99 (A 22 i)) (hf : I 6 6 = 4) (hm : I 20 2 = nI 0) : am_T (am_CL X (d + 10) mX2_played [.ref 6, .int 0, .int (nI N)] (am_wd I A J)) (oI (nI (plV G (A 13) (I 6 2) (A 14) (N - 0) 0 (A 21) (A 22))) fun I' A' J' => Fr [(24, 2), (24, 4), (28, 2), (28, 4), (32, 2), (32, 4), (6, 6)] [11, 12, 25, 26, 27, 29, 30, 31, 33, 34, 35] [] I A J I' A' J' ∧ I' 6 6 = nI (plW G (A 13) (I 6 2) (A 14) (N - 1) 0 (A 21) (A 22) 5).2) := by


  have nd : 0 < N := h1

  have lt : ((0 : Int32) < nI N) = True := by rw [show (0 : Int32) = nI 0 from rfl, am_nlt (by decide) (by omega)]; exact eq_true nd
  have en : N - 0 = (N - 1) + 1 := by omega
  have eV : plV G (A 13) (I 6 2) (A 14) (N - 0) 0 (A 21) (A 22) = (plW G (A 13) (I 6 2) (A 14) (N - 1) 0 (A 21) (A 22) 5).1 := by rw [en]; rfl
  rw [eV]
  have key : ∀ (m j : Nat) (I1 A1 : TI) (z9 z10 : Value), j + m = 5 → Fr [(24, 2), (24, 4), (28, 2), (28, 4), (32, 2), (32, 4), (6, 6)] [11, 12, 25, 26, 27, 29, 30, 31, 33, 34, 35] [] I A J I1 A1 J → I1 6 6 = nI (plW G (A 13) (I 6 2) (A 14) (N - 1) 0 (A 21) (A 22) j).2 → am_T (am_EV X (d + 9) mX2_played 59 [.ref 6, .int 0, .int (nI N), .int 1, .int (if j = 0 then 0 else 1), .int (nI (plW G (A 13) (I 6 2) (A 14) (N - 1) 0 (A 21) (A 22) j).1), .float 3, .int 5, .int (nI j), z9, z10] [] (am_wd I1 A1 J)) (oI (nI (plW G (A 13) (I 6 2) (A 14) (N - 1) 0 (A 21) (A 22) 5).1) fun I' A' J' => Fr [(24, 2), (24, 4), (28, 2), (28, 4), (32, 2), (32, 4), (6, 6)] [11, 12, 25, 26, 27, 29, 30, 31, 33, 34, 35] [] I A J I' A' J' ∧ I' 6 6 = nI (plW G (A 13) (I 6 2) (A 14) (N - 1) 0 (A 21) (A 22) 5).2) := by
    intro m
    induction m with
    | zero =>
      intro j I1 A1 z9 z10 hj f r
      have j5 : j = 5 := by omega
      subst j5
      simp only [sX2_played_59, sX2_played_61, sX2_played_63, sX2_played_165, sX2_played_167, am_rt_some, am_rt_void, am_rt_none, am_rt_ite, ↓reduceIte, if_true, if_false, and_self, true_and, and_true, true_or, or_true, Bool.false_eq_true, reduceCtorEq, show (nI 5 < 5) = False by decide]
      exact am_T.ri ⟨f, r⟩
    | succ m ih =>
      intro j I1 A1 z9 z10 hj f r
      have hlt : (nI j < 5) = True := by rw [am_nlit (x := 5) 5 rfl (show j < 2147483648 by omega) (by decide)]; exact eq_true (by omega)
      have d4 : dd j ≤ 4 := dd_lt (by omega)
      have eth : A1 21 = A 21 := f.a 21 (by decide)
      have eta : A1 22 = A 22 := f.a 22 (by decide)
      have emi : I1 20 2 = I 20 2 := f.i 20 2 (by decide)
      have ns : plW G (A 13) (I 6 2) (A 14) (N - 1) 0 (A 21) (A 22) (j + 1) = if j = 0 ∨ (okF (A 21) (dd j) = true ∧ (true = true ∧ plV G (A 13) (I 6 2) (A 14) (N - 1) 1 (dpS (dd j) (A 21)) (dpT G (A 13) (I 6 2) 0 (dpS (dd j) (A 21)) (A 22)) < (plW G (A 13) (I 6 2) (A 14) (N - 1) 0 (A 21) (A 22) j).1 ∨ true = false ∧ (plW G (A 13) (I 6 2) (A 14) (N - 1) 0 (A 21) (A 22) j).1 < plV G (A 13) (I 6 2) (A 14) (N - 1) 1 (dpS (dd j) (A 21)) (dpT G (A 13) (I 6 2) 0 (dpS (dd j) (A 21)) (A 22)))) then (plV G (A 13) (I 6 2) (A 14) (N - 1) 1 (dpS (dd j) (A 21)) (dpT G (A 13) (I 6 2) 0 (dpS (dd j) (A 21)) (A 22)), dd j) else plW G (A 13) (I 6 2) (A 14) (N - 1) 0 (A 21) (A 22) j := rfl
      have vb : plV G (A 13) (I 6 2) (A 14) (N - 1) 1 (dpS (dd j) (A 21)) (dpT G (A 13) (I 6 2) 0 (dpS (dd j) (A 21)) (A 22)) < 1000 := plV_b h99 _ _ _ _ (fun i hi => cl99_in _)
      have wb := plW_b (G := G) (st := A 13) (fi := I 6 2) (l := N - 1) (D := 0) (th := A 21) (ta := A 22) h99 j
      have ih := ih (j + 1)
      rw [ns] at ih
      have pv : ∀ (A2 I2 : Nat → Nat → Int32), (∀ k, k < 8 → A2 25 k = dpS (dd j) (A 21) k) → (∀ i, i < 5 → A2 26 i = dpT G (A 13) (I 6 2) 0 (dpS (dd j) (A 21)) (A 22) i) → A2 13 = A 13 → I2 6 2 = I 6 2 → A2 14 = A 14 → plV G (A2 13) (I2 6 2) (A2 14) (N - 1) 1 (A2 25) (A2 26) = plV G (A 13) (I 6 2) (A 14) (N - 1) 1 (dpS (dd j) (A 21)) (dpT G (A 13) (I 6 2) 0 (dpS (dd j) (A 21)) (A 22)) := fun A2 I2 h1 h2 h3 h4 h5 => by
        rw [h3, h4, h5]
        exact plV_cg (fun _ _ => rfl) _ _ h1 h2
      generalize plV G (A 13) (I 6 2) (A 14) (N - 1) 1 (dpS (dd j) (A 21)) (dpT G (A 13) (I 6 2) 0 (dpS (dd j) (A 21)) (A 22)) = V at vb ih pv
      generalize plW G (A 13) (I 6 2) (A 14) (N - 1) 0 (A 21) (A 22) j = s at wb ih r ⊢
      rw [if_neg (show ¬ j + 1 = 0 by omega)] at ih
      have ea : (((if j = 0 then 0 else 1) : Int32) = 0) = (j = 0) := by
        by_cases y : j = 0
        · rw [if_pos y]; exact propext ⟨fun _ => y, fun _ => rfl⟩
        · rw [if_neg y]; exact propext ⟨fun z => absurd z (by decide), fun z => absurd z y⟩
      have skip : ∀ (I4 A4 : TI) (z9 z10 : Value), Fr [(24, 2), (24, 4), (28, 2), (28, 4), (32, 2), (32, 4), (6, 6)] [11, 12, 25, 26, 27, 29, 30, 31, 33, 34, 35] [] I A J I4 A4 J → I4 6 6 = I1 6 6 → ¬ j = 0 → ¬ (j = 0 ∨ (okF (A 21) (dd j) = true ∧ (true = true ∧ V < s.1 ∨ true = false ∧ s.1 < V))) → am_T (am_EV X (d + 9) mX2_played 159 [.ref 6, .int 0, .int (nI N), .int 1, .int (if j = 0 then 0 else 1), .int (nI s.1), .float 3, .int 5, .int (nI j), z9, z10] [] (am_wd I4 A4 J)) (oI (nI (plW G (A 13) (I 6 2) (A 14) (N - 1) 0 (A 21) (A 22) 5).1) fun I' A' J' => Fr [(24, 2), (24, 4), (28, 2), (28, 4), (32, 2), (32, 4), (6, 6)] [11, 12, 25, 26, 27, 29, 30, 31, 33, 34, 35] [] I A J I' A' J' ∧ I' 6 6 = nI (plW G (A 13) (I 6 2) (A 14) (N - 1) 0 (A 21) (A 22) 5).2) := by
        intro I4 A4 z9 z10 f4 r4 j0 y
        rw [if_neg y] at ih
        have nx := ih I4 A4 z9 z10 (by omega) f4 (by rw [r4]; exact r)
        rw [if_neg j0]
        simp only [sX2_played_159, sX2_played_162, am_n1]
        exact nx
      have ok0 : j = 0 → (dd j = 4 ∨ A 21 (dd j) < 9) := fun y => Or.inl (by rw [y]; rfl)
      rw [sX2_played_59]
      simp only [sX2_played_61, sX2_played_63, sX2_played_66, sX2_played_66_f, sX2_played_68, sX2_played_70, sX2_played_70_f, sX2_played_71, sX2_played_73, sX2_played_73_f, sX2_played_74, sX2_played_76, sX2_played_76_f, sX2_played_77, sX2_played_80, wo_6, wf_6_0, wv_6_0, wf_6_1, wv_6_1, wf_6_2, wv_6_2, wp_6_2, wf_6_3, wv_6_3, wf_6_4, wv_6_4, wf_6_5, wv_6_5, wf_6_6, wv_6_6, wp_6_6, am_rt_some, am_rt_void, am_rt_none, am_rt_ite, ↓reduceIte, if_true, if_false, and_self, true_and, and_true, true_or, or_true, Bool.false_eq_true, reduceCtorEq, hlt, so3, sv3, am_nin (show j < 5 by omega) (show (5 : Nat) < 2147483648 by omega), am_ncl (show j < 2147483648 by omega), sa3 j (by omega), ta0, tg0]
      rw [sX2_played_81]
      simp only [sX2_played_82, sX2_played_82_f, sX2_played_83, sX2_played_86, sX2_played_87, sX2_played_88, wo_6, wf_6_0, wv_6_0, wf_6_1, wv_6_1, wf_6_2, wv_6_2, wp_6_2, wf_6_3, wv_6_3, wf_6_4, wv_6_4, wf_6_5, wv_6_5, wf_6_6, wv_6_6, wp_6_6, am_rt_some, am_rt_void, am_rt_none, am_rt_ite, ↓reduceIte, if_true, if_false, and_self, true_and, and_true, true_or, or_true, Bool.false_eq_true, reduceCtorEq, ta0, tg0, show (0 : Int32) + 1 = 1 from rfl]
      rw [sX2_played_89]
      simp only [am_rt_some, am_rt_void, am_rt_none, am_rt_ite, ↓reduceIte, if_true, if_false, and_self, true_and, and_true, true_or, or_true, Bool.false_eq_true, reduceCtorEq, ta1, tg1]
      rw [sX2_played_90]
      simp only [wo_6, wf_6_0, wv_6_0, wf_6_1, wv_6_1, wf_6_2, wv_6_2, wp_6_2, wf_6_3, wv_6_3, wf_6_4, wv_6_4, wf_6_5, wv_6_5, wf_6_6, wv_6_6, wp_6_6, am_rt_some, am_rt_void, am_rt_none, am_rt_ite, ↓reduceIte, if_true, if_false, and_self, true_and, and_true, true_or, or_true, Bool.false_eq_true, reduceCtorEq]
      refine am_T.rtI (c_isDone20 d4 (t_lac f (by decide) hG) (fun k hk => by rw [eth]; exact hth k hk)) ?_
      intro I2 A2 J2 ⟨f2, g2⟩
      have j2 : J2 = J := f2.jeq
      subst j2
      have F2 := f.tr (f2.mo (li' := [(24, 2), (24, 4), (28, 2), (28, 4), (32, 2), (32, 4), (6, 6)]) (la' := [11, 12, 25, 26, 27, 29, 30, 31, 33, 34, 35]) (by decide) (by decide) (by decide))
      have r2 : I2 6 6 = I1 6 6 := f2.i 6 6 (by decide)
      rw [eth] at g2 ⊢
      by_cases ok : dd j = 4 ∨ A 21 (dd j) < 9
      case neg =>
        simp only [ok, if_false, sX2_played_93, sX2_played_96, am_rt_some, am_rt_void, am_rt_none, am_rt_ite, ↓reduceIte, if_true, if_false, and_self, true_and, and_true, true_or, or_true, Bool.false_eq_true, reduceCtorEq]
        exact skip I2 A2 _ _ F2 r2 (fun y => ok (ok0 y)) (fun y => ok (y.elim ok0 (fun z => of_decide_eq_true z.1)))
      have okd : okF (A 21) (dd j) = true := decide_eq_true ok
      obtain ⟨k1, k2, k3⟩ := g2 ok
      rw [emi, hm, mn99_n (by decide)] at k2
      simp only [eq_true ok, if_true, sX2_played_93, sX2_played_96, sX2_played_99, sX2_played_99_f, sX2_played_100, sX2_played_101, sX2_played_102, sX2_played_103, am_rt_some, am_rt_void, am_rt_none, am_rt_ite, ↓reduceIte, if_true, if_false, and_self, true_and, and_true, true_or, or_true, Bool.false_eq_true, reduceCtorEq, show ((1 : Int32) = 0) = False by decide, show (0 : Int32) + 1 = 1 from rfl]
      rw [sX2_played_104]
      simp only [wo_6, wf_6_0, wv_6_0, wf_6_1, wv_6_1, wf_6_2, wv_6_2, wp_6_2, wf_6_3, wv_6_3, wf_6_4, wv_6_4, wf_6_5, wv_6_5, wf_6_6, wv_6_6, wp_6_6, am_rt_some, am_rt_void, am_rt_none, am_rt_ite, ↓reduceIte, if_true, if_false, and_self, true_and, and_true, true_or, or_true, Bool.false_eq_true, reduceCtorEq]
      have k3' : ∀ i, i < 5 → A2 26 i = dpT G (A 13) (I 6 2) 0 (dpS (dd j) (A 21)) (A 22) i := fun i hi => by
        rw [k3 i hi, emi, hm, eta, f.a 13 (by decide), f.i 6 2 (by decide)]; rfl
      refine am_T.rtI (c_played1 hN (t_lac F2 (by decide) hG) (fun i hi => by rw [F2.a 14 (by decide)]; exact h99 i hi) (fun k hk => by rw [k1 k hk]; exact dpS_09 d4 hth ok k hk) (fun i hi => by rw [k3' i hi]; exact cl99_in _) k2) ?_
      intro I3 A3 J3 ⟨f3, r3⟩
      have j3 : J3 = J2 := f3.jeq
      subst j3
      have F3 := F2.tr (f3.mo (li' := [(24, 2), (24, 4), (28, 2), (28, 4), (32, 2), (32, 4), (6, 6)]) (la' := [11, 12, 25, 26, 27, 29, 30, 31, 33, 34, 35]) (by decide) (by decide) (by decide))
      rw [pv A2 I2 k1 k3' (F2.a 13 (by decide)) (F2.i 6 2 (by decide)) (F2.a 14 (by decide))]
      have eL : (nI V < nI s.1) = (V < s.1) := am_nlt (by omega) (by omega)
      have eG : (nI s.1 < nI V) = (s.1 < V) := am_nlt (by omega) (by omega)
      have take : (j = 0 ∨ (okF (A 21) (dd j) = true ∧ (true = true ∧ V < s.1 ∨ true = false ∧ s.1 < V))) → am_T (am_EV X (d + 9) mX2_played 135 [.ref 6, .int 0, .int (nI N), .int 1, .int (if j = 0 then 0 else 1), .int (nI s.1), .float 3, .int 5, .int (nI j), .int (nI (dd j)), .int (nI V)] [] (am_wd I3 A3 J3)) (oI (nI (plW G (A 13) (I 6 2) (A 14) (N - 1) 0 (A 21) (A 22) 5).1) fun I' A' J' => Fr [(24, 2), (24, 4), (28, 2), (28, 4), (32, 2), (32, 4), (6, 6)] [11, 12, 25, 26, 27, 29, 30, 31, 33, 34, 35] [] I A J3 I' A' J' ∧ I' 6 6 = nI (plW G (A 13) (I 6 2) (A 14) (N - 1) 0 (A 21) (A 22) 5).2) := by
        intro y
        rw [if_pos y] at ih
        have nx := ih (am_u2 I3 6 6 (nI (dd j))) A3 (.int (nI (dd j))) (.int (nI V)) (by omega) (F3.ui (by decide)) (by rw [am_u2_at])
        simp only [sX2_played_135, sX2_played_136, sX2_played_138, sX2_played_140, sX2_played_142, sX2_played_142_f, sX2_played_143, sX2_played_144, sX2_played_147, sX2_played_149, sX2_played_152, sX2_played_152_f, sX2_played_153, sX2_played_156, sX2_played_159, sX2_played_162, wo_6, wf_6_0, wv_6_0, wf_6_1, wv_6_1, wf_6_2, wv_6_2, wp_6_2, wf_6_3, wv_6_3, wf_6_4, wv_6_4, wf_6_5, wv_6_5, wf_6_6, wv_6_6, wp_6_6, am_rt_some, am_rt_void, am_rt_none, am_rt_ite, ↓reduceIte, if_true, if_false, and_self, true_and, and_true, true_or, or_true, Bool.false_eq_true, reduceCtorEq, show ((0 : Int32) = 0) = True by decide, am_n1]
        exact nx
      by_cases y0 : j = 0
      · simp only [sX2_played_107, sX2_played_109, sX2_played_111, ea, eq_true y0, if_true]
        rw [if_pos y0] at take
        exact take (Or.inl y0)
      · simp only [sX2_played_107, sX2_played_109, sX2_played_111, sX2_played_114, sX2_played_115, ea, y0, if_false, show ((1 : Int32) = 0) = False by decide, if_true]
        rw [if_neg y0] at take
        have sk := skip I3 A3 (.int (nI (dd j))) (.int (nI V)) F3 (r3.trans r2) y0
        rw [if_neg y0] at sk
        by_cases y1 : V < s.1
        · simp only [sX2_played_118, sX2_played_120, sX2_played_122, sX2_played_125, sX2_played_128, sX2_played_130, sX2_played_132, eL, eG, y1, if_true]
          exact take (Or.inr ⟨okd, Or.inl ⟨rfl, y1⟩⟩)
        · simp only [sX2_played_118, sX2_played_120, sX2_played_122, sX2_played_125, sX2_played_128, sX2_played_130, sX2_played_132, eL, eG, y1, if_false]
          exact sk (fun z => z.elim y0 (fun z => z.2.elim (fun u => y1 u.2) (fun u => absurd u.1 (by decide))))
  simp only [eX2_played, sX2_played_0, sX2_played_1, sX2_played_2, sX2_played_5, sX2_played_6, sX2_played_7, sX2_played_10, sX2_played_10_f, sX2_played_11, sX2_played_14, sX2_played_15, sX2_played_16, sX2_played_19, sX2_played_20, sX2_played_20_f, sX2_played_21, sX2_played_24, sX2_played_27, sX2_played_28, sX2_played_29, sX2_played_30, sX2_played_31, sX2_played_34, sX2_played_35, sX2_played_38, sX2_played_39, sX2_played_40, sX2_played_41, sX2_played_43, sX2_played_44, sX2_played_46, sX2_played_49, sX2_played_49_f, sX2_played_51, sX2_played_51_f, sX2_played_53, sX2_played_53_f, am_rt_some, am_rt_void, am_rt_none, am_rt_ite, ↓reduceIte, if_true, if_false, and_self, true_and, and_true, true_or, or_true, Bool.false_eq_true, reduceCtorEq, lt, show ((0 : Int32) < 3) = True by decide, show ((0 : Int32) - 0 / 2 * 2 = 0) = True by decide, show ((2 : Int32) = 0) = False by decide, u35]
  simp only [sX2_played_54, sX2_played_56, sX2_played_57, am_rt_some, am_rt_void, am_rt_none, am_rt_ite, ↓reduceIte, if_true, if_false, and_self, true_and, and_true, true_or, or_true, Bool.false_eq_true, reduceCtorEq, sl3]
  exact key 5 0 I A _ _ rfl Fr.rf hf


theorem c_playedOut {G : VF} {N : Nat} {x : Int32} (hN : N ≤ 3) (h1 : 0 < N) (hx : x = 0 ∨ x = 1) (hG : cLaw G (A 8) (A 9) (A 10) (I 7 3)) (h99 : ∀ i, i < 5 → in99 (A 14 i)) (hth : ∀ j, j < 8 → in09 (A 16 j)) : am_T (am_CL X (d + 11) mX2_playedOut [.ref 6, .int (nI N), .int x] (am_wd I A J)) (oI (if x = 0 then nI (plW G (A 13) (I 6 2) (A 14) (N - 1) 0 (A 16) (fun _ => 0) 5).1 else nI (plW G (A 13) (I 6 2) (A 14) (N - 1) 0 (A 16) (fun _ => 0) 5).2) fun I' A' J' => Fr [(20, 2), (24, 2), (24, 4), (28, 2), (28, 4), (32, 2), (32, 4), (6, 6)] [11, 12, 21, 22, 25, 26, 27, 29, 30, 31, 33, 34, 35] [] I A J I' A' J') := by
  simp only [eX2_playedOut, sX2_playedOut_0, sX2_playedOut_1, sX2_playedOut_4, wo_6, wf_6_0, wv_6_0, wf_6_1, wv_6_1, wf_6_2, wv_6_2, wp_6_2, wf_6_3, wv_6_3, wf_6_4, wv_6_4, wf_6_5, wv_6_5, wf_6_6, wv_6_6, wp_6_6, am_rt_some, am_rt_void, am_rt_none, am_rt_ite, ↓reduceIte, if_true, if_false, and_self, true_and, and_true, true_or, or_true, Bool.false_eq_true, reduceCtorEq]
  rw [sX2_playedOut_5]
  simp only [sX2_playedOut_6, sX2_playedOut_7, sX2_playedOut_10, wo_6, wf_6_0, wv_6_0, wf_6_1, wv_6_1, wf_6_2, wv_6_2, wp_6_2, wf_6_3, wv_6_3, wf_6_4, wv_6_4, wf_6_5, wv_6_5, wf_6_6, wv_6_6, wp_6_6, wo_15, wf_15_0, wv_15_0, wf_15_1, wv_15_1, wf_15_2, wv_15_2, wp_15_2, wf_15_3, wv_15_3, wf_15_4, wv_15_4, wp_15_4, am_rt_some, am_rt_void, am_rt_none, am_rt_ite, ↓reduceIte, if_true, if_false, and_self, true_and, and_true, true_or, or_true, Bool.false_eq_true, reduceCtorEq, ta0, tg0]
  rw [sX2_playedOut_13]
  simp only [wo_20, wf_20_0, wv_20_0, wf_20_1, wv_20_1, wf_20_2, wv_20_2, wp_20_2, wf_20_3, wv_20_3, wf_20_4, wv_20_4, wp_20_4, am_rt_some, am_rt_void, am_rt_none, am_rt_ite, ↓reduceIte, if_true, if_false, and_self, true_and, and_true, true_or, or_true, Bool.false_eq_true, reduceCtorEq, c_putOn20]
  simp only [sX2_playedOut_16, sX2_playedOut_17, sX2_playedOut_18, sX2_playedOut_21, sX2_playedOut_22, sX2_playedOut_23, wo_6, wf_6_0, wv_6_0, wf_6_1, wv_6_1, wf_6_2, wv_6_2, wp_6_2, wf_6_3, wv_6_3, wf_6_4, wv_6_4, wf_6_5, wv_6_5, wf_6_6, wv_6_6, wp_6_6, am_rt_some, am_rt_void, am_rt_none, am_rt_ite, ↓reduceIte, if_true, if_false, and_self, true_and, and_true, true_or, or_true, Bool.false_eq_true, reduceCtorEq]
  have F0 : Fr [(20, 2), (24, 2), (24, 4), (28, 2), (28, 4), (32, 2), (32, 4), (6, 6)] [11, 12, 21, 22, 25, 26, 27, 29, 30, 31, 33, 34, 35] [] I A J (am_u2 (am_u2 I 20 2 0) 6 6 4) (am_u (am_u A 21 (va_cpy (A 16) (A 21) 0 0 8)) 22 (am_flI 5 0 (A 22))) J := (by repeat' (first | exact Fr.rf | assumption | refine Fr.ua ?_ ?_ | refine Fr.ui ?_ ?_ | refine Fr.uj ?_ ?_ | decide))
  have c1 : ∀ j, j < 8 → (am_u (am_u A 21 (va_cpy (A 16) (A 21) 0 0 8)) 22 (am_flI 5 0 (A 22))) 21 j = A 16 j := fun j hj => by
    rw [am_u_ne (by decide), am_u_at, cp_at hj]
  have c2 : ∀ i, i < 5 → (am_u (am_u A 21 (va_cpy (A 16) (A 21) 0 0 8)) 22 (am_flI 5 0 (A 22))) 22 i = 0 := fun i hi => by
    rw [am_u_at]; unfold am_flI; rw [if_pos hi]
  have m20 : (am_u2 (am_u2 I 20 2 0) 6 6 4) 20 2 = nI 0 := rfl
  have m66 : (am_u2 (am_u2 I 20 2 0) 6 6 4) 6 6 = 4 := rfl
  generalize (am_u (am_u A 21 (va_cpy (A 16) (A 21) 0 0 8)) 22 (am_flI 5 0 (A 22))) = A1 at F0 c1 c2 ⊢
  generalize (am_u2 (am_u2 I 20 2 0) 6 6 4) = I1 at F0 m20 m66 ⊢
  rw [sX2_playedOut_24]
  simp only [wo_6, wf_6_0, wv_6_0, wf_6_1, wv_6_1, wf_6_2, wv_6_2, wp_6_2, wf_6_3, wv_6_3, wf_6_4, wv_6_4, wf_6_5, wv_6_5, wf_6_6, wv_6_6, wp_6_6, am_rt_some, am_rt_void, am_rt_none, am_rt_ite, ↓reduceIte, if_true, if_false, and_self, true_and, and_true, true_or, or_true, Bool.false_eq_true, reduceCtorEq]
  refine am_T.rtI (c_played0 hN h1 (t_lac F0 (by decide) hG) (fun i hi => by rw [F0.a 14 (by decide)]; exact h99 i hi) (fun j hj => by rw [c1 j hj]; exact hth j hj) (fun i hi => by rw [c2 i hi]; exact ⟨by decide, by decide⟩) m66 m20) ?_
  intro I2 A2 J2 ⟨f2, r2⟩
  have F2 := F0.tr (f2.mo (li' := [(20, 2), (24, 2), (24, 4), (28, 2), (28, 4), (32, 2), (32, 4), (6, 6)]) (la' := [11, 12, 21, 22, 25, 26, 27, 29, 30, 31, 33, 34, 35]) (by decide) (by decide) (by decide))
  have eV : plV G (A1 13) (I1 6 2) (A1 14) (N - 0) 0 (A1 21) (A1 22) = (plW G (A1 13) (I1 6 2) (A1 14) (N - 1) 0 (A1 21) (A1 22) 5).1 := by rw [show N - 0 = (N - 1) + 1 by omega]; rfl
  have eW : plW G (A1 13) (I1 6 2) (A1 14) (N - 1) 0 (A1 21) (A1 22) 5 = plW G (A 13) (I 6 2) (A 14) (N - 1) 0 (A 16) (fun _ => 0) 5 := by
    rw [F0.i 6 2 (by decide)]
    exact plW_st (fun j hj => by rw [F0.a 13 (by decide)]) (fun i hi => by rw [F0.a 14 (by decide)]) c1 c2
  rw [eV, eW]
  rw [eW] at r2
  rcases hx with rfl | rfl
  · simp only [sX2_playedOut_27, sX2_playedOut_28, sX2_playedOut_29, sX2_playedOut_32, sX2_playedOut_33, sX2_playedOut_36, sX2_playedOut_39, sX2_playedOut_40, am_rt_some, am_rt_void, am_rt_none, am_rt_ite, ↓reduceIte, if_true, if_false, and_self, true_and, and_true, true_or, or_true, Bool.false_eq_true, reduceCtorEq]
    exact am_T.ri F2
  · simp only [sX2_playedOut_27, sX2_playedOut_28, sX2_playedOut_29, sX2_playedOut_32, sX2_playedOut_33, sX2_playedOut_36, sX2_playedOut_39, sX2_playedOut_40, wo_6, wf_6_0, wv_6_0, wf_6_1, wv_6_1, wf_6_2, wv_6_2, wp_6_2, wf_6_3, wv_6_3, wf_6_4, wv_6_4, wf_6_5, wv_6_5, wf_6_6, wv_6_6, wp_6_6, am_rt_some, am_rt_void, am_rt_none, am_rt_ite, ↓reduceIte, if_true, if_false, and_self, true_and, and_true, true_or, or_true, Bool.false_eq_true, reduceCtorEq, show ((1 : Int32) = 0) = False by decide, r2]
    exact am_T.ri F2
end TU

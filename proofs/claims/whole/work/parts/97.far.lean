/-! nearest, in the house: how far, as numbers; the class's own search -/
section NE
variable {X : Nat × (Nat → Int32)} {d : Nat} {I A : TI} {J : TJ} {w : am_W}
theorem ab_n {p q : Nat} (hp : p ≤ 99) (hq : q ≤ 99) : ∃ r : Nat, r ≤ 99 ∧ ab (nI p - nI q) = nI r := by
  have key : ∀ m, m < 100 → ab (nI m) = nI m := by decide +kernel
  by_cases h : q ≤ p
  · exact ⟨p - q, by omega, by rw [i_sub h, key (p - q) (by omega)]⟩
  · exact ⟨q - p, by omega, by rw [ab_sym hp hq, i_sub (by omega), key (q - p) (by omega)]⟩
/-- how far, as a number -/
def fN (a b : Nat → Int32) : Nat → Nat
  | 0 => 0
  | n + 1 => fN a b n + (ab (a n - b n)).toNatClampNeg
theorem farF_N {a b : Nat → Int32} : ∀ {n : Nat}, n ≤ 5 → (∀ j, j < n → in99 (a j) ∧ in99 (b j)) → farF a b n = nI (fN a b n) ∧ fN a b n ≤ 99 * n
  | 0, _, _ => ⟨rfl, Nat.le_refl 0⟩
  | n + 1, hn, h => by
    obtain ⟨h1, h2⟩ := farF_N (n := n) (by omega) (fun j hj => h j (by omega))
    obtain ⟨p, hp, e1⟩ := i_ofle (n := 99) (by decide) (h n (by omega)).1.1 (h n (by omega)).1.2
    obtain ⟨q, hq, e2⟩ := i_ofle (n := 99) (by decide) (h n (by omega)).2.1 (h n (by omega)).2.2
    obtain ⟨r, hr, e3⟩ := ab_n hp hq
    show farF a b n + ab (a n - b n) = nI (fN a b n + (ab (a n - b n)).toNatClampNeg) ∧ fN a b n + (ab (a n - b n)).toNatClampNeg ≤ 99 * (n + 1)
    rw [e1, e2, e3, h1, am_ncl (show r < 2147483648 by omega), i_add]
    exact ⟨rfl, by omega⟩
theorem fN_le {a b : Nat → Int32} : ∀ {n m : Nat}, n ≤ m → fN a b n ≤ fN a b m
  | n, 0, h => by rw [show n = 0 by omega]; exact Nat.le_refl _
  | n, m + 1, h => by
    by_cases q : n = m + 1
    · rw [q]; exact Nat.le_refl _
    · exact Nat.le_trans (fN_le (m := m) (by omega)) (Nat.le_add_right _ _)
theorem fN_cg {a b a' b' : Nat → Int32} : ∀ {n : Nat}, (∀ j, j < n → a j = a' j ∧ b j = b' j) → fN a b n = fN a' b' n
  | 0, _ => rfl
  | n + 1, h => by
    show fN a b n + _ = fN a' b' n + _
    rw [fN_cg (n := n) (fun j hj => h j (by omega)), (h n (by omega)).1, (h n (by omega)).2]
theorem bhF_99 {G : VF} {s fi i all : Int32} : ∀ n, in99 (bhF G s fi i all n)
  | 0 => show in99 0 from ⟨by decide, by decide⟩
  | n + 1 => cl99_in _
/-- a mix by a code, behind n minutes: a taste -/
def nG (G : VF) (st : Nat → Int32) (fi : Int32) (base n code : Nat) (i : Nat) : Int32 := bhF G (suF (mxM base code) st i 8) fi (nI i) (smf (mxM base code) 8) n
theorem nG_cg {G : VF} {st st' : Nat → Int32} {fi : Int32} {base n code i : Nat} (hi : i < 5) (h : ∀ j, j < 40 → st j = st' j) : nG G st fi base n code i = nG G st' fi base n code i := by
  unfold nG
  rw [suF_cg hi (Nat.le_refl 8) (fun _ _ => rfl) h]
def tgM (base code : Nat) : Nat := dgM base code 0 + dgM base code 1 + dgM base code 2 + dgM base code 3
theorem smf_mx {base code : Nat} : smf (mxM base code) 8 = nI (tgM base code) := by
  have e : ∀ j, j < 4 → mxM base code j = nI (dgM base code j) := fun j hj => if_pos hj
  have z : ∀ j, ¬ j < 4 → mxM base code j = nI 0 := fun j hj => if_neg hj
  show nI 0 + mxM base code 0 + mxM base code 1 + mxM base code 2 + mxM base code 3 + mxM base code 4 + mxM base code 5 + mxM base code 6 + mxM base code 7 = _
  rw [e 0 (by decide), e 1 (by decide), e 2 (by decide), e 3 (by decide), z 4 (by decide), z 5 (by decide), z 6 (by decide), z 7 (by decide)]
  simp only [i_add, tgM, Nat.zero_add, Nat.add_zero]
theorem tgM_lt {base code : Nat} (hb : 0 < base) (hb2 : base < 10) : tgM base code < 100 := by
  have h0 := dgM_lt (base := base) (code := code) (k := 0) hb
  have h1 := dgM_lt (base := base) (code := code) (k := 1) hb
  have h2 := dgM_lt (base := base) (code := code) (k := 2) hb
  have h3 := dgM_lt (base := base) (code := code) (k := 3) hb
  unfold tgM
  omega
theorem mxM_09 {base code j : Nat} (hb : 0 < base) (hb2 : base < 10) : in09 (mxM base code j) := by
  unfold mxM
  by_cases q : j < 4
  · rw [if_pos q]
    exact in09_n (by have := dgM_lt (base := base) (code := code) (k := j) hb; omega)
  · rw [if_neg q]; exact ⟨by decide, by decide⟩
theorem c_farBehind {G : VF} {n E : Nat} (hG : cLaw G (A 8) (A 9) (A 10) (I 7 3)) (hn : n ≤ 99) (hE : E < 100000) (g : Nat → Int32) (hg : ∀ i, i < 5 → g i = bhF G (A 18 i) (I 6 2) (nI i) (I 15 4) n) (h99 : ∀ i, i < 5 → in99 (A 14 i)) : am_T (am_CL X (d + 5) mX2_farBehind [.ref 6, .int (nI n), .int (nI E)] (am_wd I A J)) (oE fun r I' A' J' => Fr [] [11, 12] [] I A J I' A' J' ∧ ∃ q : Nat, r = nI q ∧ q < 1000 ∧ (q = fN g (A 14) 5 ∨ (E < q ∧ E < fN g (A 14) 5))) := by
  have gg : ∀ j, j < 5 → in99 (g j) ∧ in99 (A 14 j) := fun j hj => ⟨by rw [hg j hj]; exact bhF_99 n, h99 j hj⟩
  have fb : ∀ k, k ≤ 5 → fN g (A 14) k < 1000 := fun k hk => by
    have := (farF_N hk (fun j hj => gg j (by omega))).2
    omega
  have key : ∀ (m k : Nat) (A1 : TI), k + m = 5 → Fr [] [11, 12] [] I A J I A1 J → am_T (am_EV X (d + 4) mX2_farBehind 5 [.ref 6, .int (nI n), .int (nI E), .int (nI (fN g (A 14) k)), .int (nI k)] [] (am_wd I A1 J)) (oE fun r I' A' J' => Fr [] [11, 12] [] I A J I' A' J' ∧ ∃ q : Nat, r = nI q ∧ q < 1000 ∧ (q = fN g (A 14) 5 ∨ (E < q ∧ E < fN g (A 14) 5))) := by
    intro m
    induction m with
    | zero =>
      intro k A1 hk f
      have k5 : k = 5 := by omega
      subst k5
      simp only [sX2_farBehind_5, sX2_farBehind_7, sX2_farBehind_8, sX2_farBehind_54, sX2_farBehind_55, am_rt_some, am_rt_void, am_rt_none, am_rt_ite, ↓reduceIte, if_true, if_false, and_self, true_and, and_true, true_or, or_true, Bool.false_eq_true, reduceCtorEq, show (nI 5 < 5) = False by decide]
      exact am_T.re ⟨f, _, rfl, fb 5 (by omega), Or.inl rfl⟩
    | succ m ih =>
      intro k A1 hk f
      have hlt : (nI k < 5) = True := by rw [am_nlit (x := 5) 5 rfl (show k < 2147483648 by omega) (by decide)]; exact eq_true (by omega)
      have hf := fb k (by omega)
      have el : (nI E < nI (fN g (A 14) k)) = (E < fN g (A 14) k) := am_nlt (by omega) (by omega)
      rw [sX2_farBehind_5]
      by_cases c : E < fN g (A 14) k
      · simp only [sX2_farBehind_7, sX2_farBehind_8, sX2_farBehind_11, sX2_farBehind_12, sX2_farBehind_13, sX2_farBehind_54, sX2_farBehind_55, am_rt_some, am_rt_void, am_rt_none, am_rt_ite, ↓reduceIte, if_true, if_false, and_self, true_and, and_true, true_or, or_true, Bool.false_eq_true, reduceCtorEq, hlt, el, c]
        exact am_T.re ⟨f, _, rfl, hf, Or.inr ⟨c, Nat.lt_of_lt_of_le c (fN_le (by omega))⟩⟩
      · have e14 : A1 14 = A 14 := f.a 14 (by decide)
        have e18 : A1 18 = A 18 := f.a 18 (by decide)
        simp only [sX2_farBehind_7, sX2_farBehind_8, sX2_farBehind_11, sX2_farBehind_12, sX2_farBehind_13, sX2_farBehind_16, sX2_farBehind_17, sX2_farBehind_18, sX2_farBehind_21, sX2_farBehind_23, sX2_farBehind_24, sX2_farBehind_25, sX2_farBehind_28, sX2_farBehind_29, wo_6, wf_6_0, wv_6_0, wf_6_1, wv_6_1, wf_6_2, wv_6_2, wp_6_2, wf_6_3, wv_6_3, wf_6_4, wv_6_4, wf_6_5, wv_6_5, wf_6_6, wv_6_6, wp_6_6, am_rt_some, am_rt_void, am_rt_none, am_rt_ite, ↓reduceIte, if_true, if_false, and_self, true_and, and_true, true_or, or_true, Bool.false_eq_true, reduceCtorEq, hlt, el, c]
        rw [sX2_farBehind_32]
        simp only [wo_15, wf_15_0, wv_15_0, wf_15_1, wv_15_1, wf_15_2, wv_15_2, wp_15_2, wf_15_3, wv_15_3, wf_15_4, wv_15_4, wp_15_4, am_rt_some, am_rt_void, am_rt_none, am_rt_ite, ↓reduceIte, if_true, if_false, and_self, true_and, and_true, true_or, or_true, Bool.false_eq_true, reduceCtorEq]
        refine am_T.rtI (c_behind15 (t_lac f (by decide) hG) (show k < 5 by omega) hn) ?_
        intro I2 A2 J2 f2
        have i2 : I2 = I := f2.ieq
        have j2 : J2 = J := f2.jeq
        subst i2 j2
        have F2 := f.tr f2
        have e214 : A2 14 = A 14 := F2.a 14 (by decide)
        have nx := ih (k + 1) A2 (by omega) F2
        have es : nI (fN g (A 14) (k + 1)) = nI (fN g (A 14) k) + (if 0 ≤ bhF G (A 18 k) (I2 6 2) (nI k) (I2 15 4) n - A 14 k then bhF G (A 18 k) (I2 6 2) (nI k) (I2 15 4) n - A 14 k else 0 - (bhF G (A 18 k) (I2 6 2) (nI k) (I2 15 4) n - A 14 k)) := by
          rw [← (farF_N (show k + 1 ≤ 5 by omega) (fun j hj => gg j (by omega))).1, ← (farF_N (show k ≤ 5 by omega) (fun j hj => gg j (by omega))).1, ← hg k (by omega)]
          rfl
        rw [es] at nx
        rw [e18]
        simp only [sX2_farBehind_35, sX2_farBehind_36, sX2_farBehind_39, sX2_farBehind_41, sX2_farBehind_41_f, sX2_farBehind_42, sX2_farBehind_43, sX2_farBehind_46, sX2_farBehind_47, sX2_farBehind_48, sX2_farBehind_51, wo_6, wf_6_0, wv_6_0, wf_6_1, wv_6_1, wf_6_2, wv_6_2, wp_6_2, wf_6_3, wv_6_3, wf_6_4, wv_6_4, wf_6_5, wv_6_5, wf_6_6, wv_6_6, wp_6_6, wi_14, wg_14, ws_14, ww_14, wl_14, wn_14, am_rt_some, am_rt_void, am_rt_none, am_rt_ite, ↓reduceIte, if_true, if_false, and_self, true_and, and_true, true_or, or_true, Bool.false_eq_true, reduceCtorEq, e214, am_nin (show k < 5 by omega) (show (5 : Nat) < 2147483648 by omega), am_ncl (show k < 2147483648 by omega), am_n1]
        exact nx
  simp only [eX2_farBehind, sX2_farBehind_0, sX2_farBehind_1, sX2_farBehind_2, sX2_farBehind_3]
  exact key 5 0 A rfl Fr.rf
/-- the search: least, fewest, code -/
def neF (may : Nat → Bool) (far tog : Nat → Nat) (i0 : Nat) : Nat → Nat × Nat × Nat
  | 0 => (i0, 0, 0)
  | n + 1 => if may n = true ∧ (far n < (neF may far tog i0 n).1 ∨ far n = (neF may far tog i0 n).1 ∧ tog n < (neF may far tog i0 n).2.1) then (far n, tog n, n) else neF may far tog i0 n
theorem neF_b {may : Nat → Bool} {far tog : Nat → Nat} {i0 M : Nat} (hi : i0 < M) (h1 : ∀ n, far n < M) (h2 : ∀ n, tog n < 100) : ∀ n, (neF may far tog i0 n).1 < M ∧ (neF may far tog i0 n).2.1 < 100 ∧ (neF may far tog i0 n).2.2 ≤ n
  | 0 => ⟨hi, by show (0 : Nat) < 100; decide, Nat.le_refl 0⟩
  | n + 1 => by
    have ih := neF_b hi h1 h2 n (may := may) (tog := tog)
    unfold neF
    by_cases q : may n = true ∧ (far n < (neF may far tog i0 n).1 ∨ far n = (neF may far tog i0 n).1 ∧ tog n < (neF may far tog i0 n).2.1)
    · rw [if_pos q]; exact ⟨h1 n, h2 n, Nat.le_succ n⟩
    · rw [if_neg q]; exact ⟨ih.1, ih.2.1, Nat.le_succ_of_le ih.2.2⟩
theorem neF_one {may : Nat → Bool} {far tog : Nat → Nat} {i0 : Nat} (m0 : may 0 = true) (h : far 0 < i0) : neF may far tog i0 1 = (far 0, tog 0, 0) := if_pos ⟨m0, Or.inl h⟩
theorem neF_i {may : Nat → Bool} {far tog : Nat → Nat} {i0 i1 : Nat} (m0 : may 0 = true) (h0 : far 0 < i0) (h1 : far 0 < i1) : ∀ n, neF may far tog i0 (n + 1) = neF may far tog i1 (n + 1)
  | 0 => by rw [neF_one m0 h0, neF_one m0 h1]
  | n + 1 => by
    have ih := neF_i m0 h0 h1 n (tog := tog)
    show (if may (n + 1) = true ∧ (far (n + 1) < (neF may far tog i0 (n + 1)).1 ∨ far (n + 1) = (neF may far tog i0 (n + 1)).1 ∧ tog (n + 1) < (neF may far tog i0 (n + 1)).2.1) then _ else _) = (if may (n + 1) = true ∧ (far (n + 1) < (neF may far tog i1 (n + 1)).1 ∨ far (n + 1) = (neF may far tog i1 (n + 1)).1 ∧ tog (n + 1) < (neF may far tog i1 (n + 1)).2.1) then _ else _)
    rw [ih]
end NE

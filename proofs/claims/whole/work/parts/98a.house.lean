/-! in the house: both -/
section IH
variable {X : Nat × (Nat → Int32)} {d : Nat} {I A : TI} {J : TJ} {w : am_W}
theorem ab_z {p q : Nat} (hp : p ≤ 99) (hq : q ≤ 99) : (ab (nI p - nI q)).toNatClampNeg = 0 ↔ nI p = nI q := by
  have key : ∀ m, m < 100 → ab (nI m) = nI m := by decide +kernel
  rw [i_eq (show p < 2147483648 by omega) (show q < 2147483648 by omega)]
  by_cases h : q ≤ p
  · rw [i_sub h, key (p - q) (by omega), am_ncl (by omega)]
    omega
  · rw [ab_sym hp hq, i_sub (by omega), key (q - p) (by omega), am_ncl (by omega)]
    omega
def fitF (a b : Nat → Int32) : Nat → Bool
  | 0 => true
  | n + 1 => fitF a b n && decide (a n = b n)
theorem fitF_f {a b : Nat → Int32} {n : Nat} (h : fitF a b n = false) : ∀ m, n ≤ m → fitF a b m = false := by
  intro m hm
  induction m with
  | zero => rw [show n = 0 by omega] at h; exact h
  | succ m ih =>
    by_cases y : n = m + 1
    · rw [← y]; exact h
    · show (fitF a b m && _) = false
      rw [ih (by omega), Bool.false_and]
theorem fitF_cg {a b a' b' : Nat → Int32} : ∀ {n : Nat}, (∀ j, j < n → a j = a' j ∧ b j = b' j) → fitF a b n = fitF a' b' n
  | 0, _ => rfl
  | n + 1, h => by
    show (fitF a b n && _) = (fitF a' b' n && _)
    rw [fitF_cg (n := n) (fun j hj => h j (by omega)), (h n (by omega)).1, (h n (by omega)).2]
theorem fitF_0 {a b : Nat → Int32} : ∀ {n : Nat}, (∀ j, j < n → in99 (a j) ∧ in99 (b j)) → (fN a b n = 0 ↔ fitF a b n = true)
  | 0, _ => ⟨fun _ => rfl, fun _ => rfl⟩
  | n + 1, h => by
    have ih := fitF_0 (n := n) (fun j hj => h j (by omega))
    obtain ⟨p, hp, e1⟩ := i_ofle (n := 99) (by decide) (h n (by omega)).1.1 (h n (by omega)).1.2
    obtain ⟨q, hq, e2⟩ := i_ofle (n := 99) (by decide) (h n (by omega)).2.1 (h n (by omega)).2.2
    have z := ab_z hp hq
    show fN a b n + (ab (a n - b n)).toNatClampNeg = 0 ↔ (fitF a b n && decide (a n = b n)) = true
    rw [Bool.and_eq_true, decide_eq_true_eq, ← ih, e1, e2, ← z]
    omega
theorem c_fits {G : VF} {n : Nat} (hG : cLaw G (A 8) (A 9) (A 10) (I 7 3)) (hn : n ≤ 99) (hth : ∀ j, j < 8 → in09 (A 16 j)) (g : Nat → Int32) (hg : ∀ i, i < 5 → g i = bhF G (suF (A 16) (A 13) i 8) (I 6 2) (nI i) (smf (A 16) 8) n) : am_T (am_CL X (d + 5) mX2_fits [.ref 6, .int (nI n)] (am_wd I A J)) (oI (if fitF g (A 14) 5 = true then 1 else 0) fun I' A' J' => Fr [(15, 4)] [11, 12, 18] [] I A J I' A' J') := by
  simp only [eX2_fits, sX2_fits_0, sX2_fits_1, sX2_fits_4, sX2_fits_5, wo_6, wf_6_0, wv_6_0, wf_6_1, wv_6_1, wf_6_2, wv_6_2, wp_6_2, wf_6_3, wv_6_3, wf_6_4, wv_6_4, wf_6_5, wv_6_5, wf_6_6, wv_6_6, wp_6_6, am_rt_some, am_rt_void, am_rt_none, am_rt_ite, ↓reduceIte, if_true, if_false, and_self, true_and, and_true, true_or, or_true, Bool.false_eq_true, reduceCtorEq]
  rw [sX2_fits_8]
  simp only [wo_15, wf_15_0, wv_15_0, wf_15_1, wv_15_1, wf_15_2, wv_15_2, wp_15_2, wf_15_3, wv_15_3, wf_15_4, wv_15_4, wp_15_4, am_rt_some, am_rt_void, am_rt_none, am_rt_ite, ↓reduceIte, if_true, if_false, and_self, true_and, and_true, true_or, or_true, Bool.false_eq_true, reduceCtorEq]
  refine am_T.rtU (c_weigh15 hth) ?_
  intro I1 A1 J1 ⟨f1, w1, w2⟩
  have j1 : J1 = J := f1.jeq
  subst j1
  have F1 : Fr [(15, 4)] [11, 12, 18] [] I A J1 I1 A1 J1 := f1.mo (by decide) (by decide) (by decide)
  have key : ∀ (m k : Nat) (A2 : TI), k + m = 5 → Fr [] [11, 12] [] I1 A1 J1 I1 A2 J1 → fitF g (A 14) k = true → am_T (am_EV X (d + 4) mX2_fits 13 [.ref 6, .int (nI n), .int (nI k)] [] (am_wd I1 A2 J1)) (oI (if fitF g (A 14) 5 = true then 1 else 0) fun I' A' J' => Fr [(15, 4)] [11, 12, 18] [] I A J1 I' A' J') := by
    intro m
    induction m with
    | zero =>
      intro k A2 hk f g0
      have k5 : k = 5 := by omega
      subst k5
      simp only [sX2_fits_13, sX2_fits_14, sX2_fits_15, sX2_fits_52, sX2_fits_53, am_rt_some, am_rt_void, am_rt_none, am_rt_ite, ↓reduceIte, if_true, if_false, and_self, true_and, and_true, true_or, or_true, Bool.false_eq_true, reduceCtorEq, show (nI 5 < 5) = False by decide, g0]
      exact am_T.ri (F1.tr (f.mo (by decide) (by decide) (by decide)))
    | succ m ih =>
      intro k A2 hk f g0
      have hlt : (nI k < 5) = True := by rw [am_nlit (x := 5) 5 rfl (show k < 2147483648 by omega) (by decide)]; exact eq_true (by omega)
      have F2 := F1.tr (f.mo (li' := [(15, 4)]) (la' := [11, 12, 18]) (by decide) (by decide) (by decide))
      have e18 : A2 18 = A1 18 := f.a 18 (by decide)
      have mo : fitF g (A 14) (k + 1) = decide (g k = A 14 k) := by
        show (fitF g (A 14) k && _) = _
        rw [g0, Bool.true_and]
      rw [sX2_fits_13]
      simp only [sX2_fits_14, sX2_fits_15, sX2_fits_18, sX2_fits_19, sX2_fits_22, sX2_fits_23, sX2_fits_24, sX2_fits_25, sX2_fits_28, sX2_fits_29, wo_6, wf_6_0, wv_6_0, wf_6_1, wv_6_1, wf_6_2, wv_6_2, wp_6_2, wf_6_3, wv_6_3, wf_6_4, wv_6_4, wf_6_5, wv_6_5, wf_6_6, wv_6_6, wp_6_6, am_rt_some, am_rt_void, am_rt_none, am_rt_ite, ↓reduceIte, if_true, if_false, and_self, true_and, and_true, true_or, or_true, Bool.false_eq_true, reduceCtorEq, hlt]
      rw [sX2_fits_32]
      simp only [wo_15, wf_15_0, wv_15_0, wf_15_1, wv_15_1, wf_15_2, wv_15_2, wp_15_2, wf_15_3, wv_15_3, wf_15_4, wv_15_4, wp_15_4, am_rt_some, am_rt_void, am_rt_none, am_rt_ite, ↓reduceIte, if_true, if_false, and_self, true_and, and_true, true_or, or_true, Bool.false_eq_true, reduceCtorEq]
      refine am_T.rtI (c_behind15 (t_lac F2 (by decide) hG) (show k < 5 by omega) hn) ?_
      intro I3 A3 J3 ⟨f3a, f3b, f3c⟩
      have f3 : Fr [] [11, 12] [] I1 A2 J1 I3 A3 J3 := ⟨f3a, f3b, f3c⟩
      have i3 : I3 = I1 := f3.ieq
      have j3 : J3 = J1 := f3.jeq
      subst i3 j3
      have f4 := f.tr f3
      have F4 := F1.tr (f4.mo (li' := [(15, 4)]) (la' := [11, 12, 18]) (by decide) (by decide) (by decide))
      have e14 : A3 14 = A 14 := F4.a 14 (by decide)
      have eg : bhF G (A2 18 k) (I3 6 2) (nI k) (I3 15 4) n = g k := by
        rw [hg k (by omega), e18, w2 k (by omega), w1, F1.i 6 2 (by decide)]
      rw [eg]
      by_cases q : g k = A 14 k
      · simp only [sX2_fits_35, sX2_fits_36, sX2_fits_39, sX2_fits_40, sX2_fits_40_f, sX2_fits_41, sX2_fits_44, sX2_fits_45, sX2_fits_46, sX2_fits_49, wo_6, wf_6_0, wv_6_0, wf_6_1, wv_6_1, wf_6_2, wv_6_2, wp_6_2, wf_6_3, wv_6_3, wf_6_4, wv_6_4, wf_6_5, wv_6_5, wf_6_6, wv_6_6, wp_6_6, wi_14, wg_14, ws_14, ww_14, wl_14, wn_14, am_rt_some, am_rt_void, am_rt_none, am_rt_ite, ↓reduceIte, if_true, if_false, and_self, true_and, and_true, true_or, or_true, Bool.false_eq_true, reduceCtorEq, e14, am_nin (show k < 5 by omega) (show (5 : Nat) < 2147483648 by omega), am_ncl (show k < 2147483648 by omega), eq_true q, am_n1]
        exact ih (k + 1) A3 (by omega) f4 (by rw [mo]; exact decide_eq_true q)
      · have z : fitF g (A 14) 5 = false := fitF_f (n := k + 1) (by rw [mo]; exact decide_eq_false q) 5 (by omega)
        simp only [sX2_fits_35, sX2_fits_36, sX2_fits_39, sX2_fits_40, sX2_fits_40_f, sX2_fits_41, sX2_fits_44, sX2_fits_45, wo_6, wf_6_0, wv_6_0, wf_6_1, wv_6_1, wf_6_2, wv_6_2, wp_6_2, wf_6_3, wv_6_3, wf_6_4, wv_6_4, wf_6_5, wv_6_5, wf_6_6, wv_6_6, wp_6_6, wi_14, wg_14, ws_14, ww_14, wl_14, wn_14, am_rt_some, am_rt_void, am_rt_none, am_rt_ite, ↓reduceIte, if_true, if_false, and_self, true_and, and_true, true_or, or_true, Bool.false_eq_true, reduceCtorEq, e14, am_nin (show k < 5 by omega) (show (5 : Nat) < 2147483648 by omega), am_ncl (show k < 2147483648 by omega), q, z]
        exact am_T.ri F4
  simp only [sX2_fits_11, sX2_fits_12, am_rt_some, am_rt_void, am_rt_none, am_rt_ite, ↓reduceIte, if_true, if_false, and_self, true_and, and_true, true_or, or_true, Bool.false_eq_true, reduceCtorEq]
  exact key 5 0 A1 rfl Fr.rf rfl
/-- how many, the first, the least, the most -/
def hoF (ok : Nat → Bool) (of : Nat → Nat) : Nat → Nat × Nat × Nat × Nat
  | 0 => (0, 0, 0, 0)
  | n + 1 => if ok n = true then ((hoF ok of n).1 + 1, if (hoF ok of n).1 = 0 then n else (hoF ok of n).2.1, if (hoF ok of n).1 = 0 then of n else min (hoF ok of n).2.2.1 (of n), if (hoF ok of n).1 = 0 then of n else max (hoF ok of n).2.2.2 (of n)) else hoF ok of n
def tN (m x : Nat) : Int32 := if m = 0 then -2 else nI x
def hoA (what : Nat) (s : Nat × Nat × Nat × Nat) : Int32 := if what = 0 then nI s.1 else if what = 1 then tN s.1 s.2.1 else if what < 20 then tN s.1 s.2.2.1 else tN s.1 s.2.2.2
theorem hoF_of {ok : Nat → Bool} {o1 o2 : Nat → Nat} : ∀ n, (hoF ok o1 n).1 = (hoF ok o2 n).1 ∧ (hoF ok o1 n).2.1 = (hoF ok o2 n).2.1
  | 0 => ⟨rfl, rfl⟩
  | n + 1 => by
    obtain ⟨h1, h2⟩ := hoF_of (ok := ok) (o1 := o1) (o2 := o2) n
    unfold hoF
    by_cases q : ok n = true
    · rw [if_pos q, if_pos q]
      show (hoF ok o1 n).1 + 1 = (hoF ok o2 n).1 + 1 ∧ (if (hoF ok o1 n).1 = 0 then n else (hoF ok o1 n).2.1) = (if (hoF ok o2 n).1 = 0 then n else (hoF ok o2 n).2.1)
      rw [h1, h2]; exact ⟨rfl, rfl⟩
    · rw [if_neg q, if_neg q]; exact ⟨h1, h2⟩
theorem hoF_b {ok : Nat → Bool} {of : Nat → Nat} (h : ∀ n, of n < 10) : ∀ n, (hoF ok of n).1 ≤ n ∧ (hoF ok of n).2.1 ≤ n ∧ (hoF ok of n).2.2.1 < 10 ∧ (hoF ok of n).2.2.2 < 10
  | 0 => ⟨Nat.le_refl 0, Nat.le_refl 0, by show (0 : Nat) < 10; decide, by show (0 : Nat) < 10; decide⟩
  | n + 1 => by
    obtain ⟨h1, h2, h3, h4⟩ := hoF_b h n (ok := ok)
    have h0 := h n
    unfold hoF
    by_cases q : ok n = true
    · rw [if_pos q]
      show (hoF ok of n).1 + 1 ≤ n + 1 ∧ (if (hoF ok of n).1 = 0 then n else (hoF ok of n).2.1) ≤ n + 1 ∧ (if (hoF ok of n).1 = 0 then of n else min (hoF ok of n).2.2.1 (of n)) < 10 ∧ (if (hoF ok of n).1 = 0 then of n else max (hoF ok of n).2.2.2 (of n)) < 10
      by_cases z : (hoF ok of n).1 = 0
      · rw [if_pos z, if_pos z, if_pos z]; omega
      · rw [if_neg z, if_neg z, if_neg z]; omega
    · rw [if_neg q]; omega
theorem mnI {a b : Nat} (ha : a < 1000) (hb : b < 1000) : (if nI b < nI a then nI b else nI a) = nI (min a b) := by
  have e := am_nlt (show b < 2147483648 by omega) (show a < 2147483648 by omega)
  by_cases q : b < a
  · rw [if_pos (by rw [e]; exact q), Nat.min_eq_right (by omega)]
  · rw [if_neg (by rw [e]; exact q), Nat.min_eq_left (by omega)]
theorem mnI' {a b : Nat} (ha : a < 1000) (hb : b < 1000) : (if nI a < nI b then nI a else nI b) = nI (min a b) := by
  rw [mnI hb ha, Nat.min_comm]
theorem mxJ {a b : Nat} (ha : a < 1000) (hb : b < 1000) : (if nI a < nI b then nI b else nI a) = nI (max a b) := by
  have e := am_nlt (show a < 2147483648 by omega) (show b < 2147483648 by omega)
  by_cases q : a < b
  · rw [if_pos (by rw [e]; exact q), Nat.max_eq_right (by omega)]
  · rw [if_neg (by rw [e]; exact q), Nat.max_eq_left (by omega)]
theorem mxJ' {a b : Nat} (ha : a < 1000) (hb : b < 1000) : (if nI b < nI a then nI a else nI b) = nI (max a b) := by
  rw [mxJ hb ha, Nat.max_comm]
theorem m2a {a : Nat} (h : a < 1000) : ((-2 : Int32) < nI a) = True := eq_true (by
  rw [Int32.lt_iff_toInt_lt, nI_toInt (by omega)]
  have : (-2 : Int32).toInt = -2 := rfl
  omega)
theorem m2b {a : Nat} (h : a < 1000) : (nI a < (-2 : Int32)) = False := eq_false (by
  rw [Int32.lt_iff_toInt_lt, nI_toInt (by omega)]
  have : (-2 : Int32).toInt = -2 := rfl
  omega)
theorem m2c {a : Nat} (h : a < 1000) : (nI a = (-2 : Int32)) = False := eq_false (fun q => by
  have h2 := m2b h
  rw [q] at h2
  have h3 := m2a h
  rw [q] at h3
  have := congrArg Int32.toInt q
  rw [nI_toInt (by omega)] at this
  have : (-2 : Int32).toInt = -2 := rfl
  omega)
def okW (v : Nat) : Prop := v = 0 ∨ v = 1 ∨ (10 ≤ v ∧ v < 14) ∨ (20 ≤ v ∧ v < 24)
theorem c_fittingMixes {G : VF} {h n v : Nat} (hG : cLaw G (A 8) (A 9) (A 10) (I 7 3)) (hh : h < 6) (hn : n ≤ 10) (hv : v % 10 < 4) (hv2 : v < 24) (h99 : ∀ i, i < 5 → in99 (A 14 i)) (ok : Nat → Bool) (hok : ∀ c, ok c = (mayM 4 c (fun k => A 47 (8 * h + k)) 4 && fitF (nG G (A 13) (I 6 2) 4 n c) (A 14) 5)) : am_T (am_CL X (d + 7) mX2_fittingMixes [.ref 6, .ref 47, .int (nI h), .int (nI n), .int (nI v)] (am_wd I A J)) (oI (hoA v (hoF ok (fun c => dgM 4 c (v % 10)) 256)) fun I' A' J' => Fr [(15, 4)] [11, 12, 16, 18] [] I A J I' A' J') := by
  have of4 : ∀ c, dgM 4 c (v % 10) < 10 := fun c => by have := dgM_lt (base := 4) (code := c) (k := v % 10) (by decide); omega
  have nb := hoF_b (ok := ok) of4
  have v0 : (nI v = 0) = (v = 0) := i_eq (b := 0) (by omega) (by decide)
  have v1 : (nI v = 1) = (v = 1) := i_eq (b := 1) (by omega) (by decide)
  have v20 : (nI v < 20) = (v < 20) := am_nlit (x := 20) 20 rfl (by omega) (by decide)
  have key : ∀ (m c : Nat) (I1 A1 : TI) (z10 : Value), c + m = 256 → Fr [(15, 4)] [11, 12, 16, 18] [] I A J I1 A1 J → am_T (am_EV X (d + 6) mX2_fittingMixes 18 [.ref 6, .ref 47, .int (nI h), .int (nI n), .int (nI v), .int (nI (hoF ok (fun c => dgM 4 c (v % 10)) c).1), .int (tN (hoF ok (fun c => dgM 4 c (v % 10)) c).1 (hoF ok (fun c => dgM 4 c (v % 10)) c).2.1), .int (tN (hoF ok (fun c => dgM 4 c (v % 10)) c).1 (hoF ok (fun c => dgM 4 c (v % 10)) c).2.2.1), .int (tN (hoF ok (fun c => dgM 4 c (v % 10)) c).1 (hoF ok (fun c => dgM 4 c (v % 10)) c).2.2.2), .int (nI c), z10] [] (am_wd I1 A1 J)) (oI (hoA v (hoF ok (fun c => dgM 4 c (v % 10)) 256)) fun I' A' J' => Fr [(15, 4)] [11, 12, 16, 18] [] I A J I' A' J') := by
    intro m
    induction m with
    | zero =>
      intro c I1 A1 z10 hc f
      have cE : c = 256 := by omega
      subst cE
      unfold hoA
      by_cases q0 : v = 0
      · simp only [sX2_fittingMixes_18, sX2_fittingMixes_20, sX2_fittingMixes_23, sX2_fittingMixes_110, sX2_fittingMixes_112, sX2_fittingMixes_115, sX2_fittingMixes_117, am_rt_some, am_rt_void, am_rt_none, am_rt_ite, ↓reduceIte, if_true, if_false, and_self, true_and, and_true, true_or, or_true, Bool.false_eq_true, reduceCtorEq, show (nI 256 < 256) = False by decide, v0, eq_true q0]
        exact am_T.ri f
      by_cases q1 : v = 1
      · simp only [sX2_fittingMixes_18, sX2_fittingMixes_20, sX2_fittingMixes_23, sX2_fittingMixes_110, sX2_fittingMixes_112, sX2_fittingMixes_115, sX2_fittingMixes_117, sX2_fittingMixes_118, sX2_fittingMixes_120, sX2_fittingMixes_121, sX2_fittingMixes_124, sX2_fittingMixes_126, sX2_fittingMixes_129, sX2_fittingMixes_131, sX2_fittingMixes_133, sX2_fittingMixes_136, sX2_fittingMixes_138, sX2_fittingMixes_141, sX2_fittingMixes_143, am_rt_some, am_rt_void, am_rt_none, am_rt_ite, ↓reduceIte, if_true, if_false, and_self, true_and, and_true, true_or, or_true, Bool.false_eq_true, reduceCtorEq, show (nI 256 < 256) = False by decide, v0, q0, v1, eq_true q1]
        exact am_T.ri f
      by_cases q2 : v < 20
      · simp only [sX2_fittingMixes_18, sX2_fittingMixes_20, sX2_fittingMixes_23, sX2_fittingMixes_110, sX2_fittingMixes_112, sX2_fittingMixes_115, sX2_fittingMixes_117, sX2_fittingMixes_118, sX2_fittingMixes_120, sX2_fittingMixes_121, sX2_fittingMixes_124, sX2_fittingMixes_126, sX2_fittingMixes_129, sX2_fittingMixes_131, sX2_fittingMixes_133, sX2_fittingMixes_136, sX2_fittingMixes_138, sX2_fittingMixes_141, sX2_fittingMixes_143, am_rt_some, am_rt_void, am_rt_none, am_rt_ite, ↓reduceIte, if_true, if_false, and_self, true_and, and_true, true_or, or_true, Bool.false_eq_true, reduceCtorEq, show (nI 256 < 256) = False by decide, v0, q0, v1, q1, v20, q2]
        exact am_T.ri f
      · simp only [sX2_fittingMixes_18, sX2_fittingMixes_20, sX2_fittingMixes_23, sX2_fittingMixes_110, sX2_fittingMixes_112, sX2_fittingMixes_115, sX2_fittingMixes_117, sX2_fittingMixes_118, sX2_fittingMixes_120, sX2_fittingMixes_121, sX2_fittingMixes_124, sX2_fittingMixes_126, sX2_fittingMixes_129, sX2_fittingMixes_131, sX2_fittingMixes_133, sX2_fittingMixes_136, sX2_fittingMixes_138, sX2_fittingMixes_141, sX2_fittingMixes_143, am_rt_some, am_rt_void, am_rt_none, am_rt_ite, ↓reduceIte, if_true, if_false, and_self, true_and, and_true, true_or, or_true, Bool.false_eq_true, reduceCtorEq, show (nI 256 < 256) = False by decide, v0, q0, v1, q1, v20, q2]
        exact am_T.ri f
    | succ m ih =>
      intro c I1 A1 z10 hc f
      have hlt : (nI c < 256) = True := by rw [am_nlit (x := 256) 256 rfl (show c < 2147483648 by omega) (by decide)]; exact eq_true (by omega)
      obtain ⟨b1, b2, b3, b4⟩ := nb c
      have o4 := of4 c
      have e47 : A1 47 = A 47 := f.a 47 (by decide)
      have ns : hoF ok (fun c => dgM 4 c (v % 10)) (c + 1) = if ok c = true then ((hoF ok (fun c => dgM 4 c (v % 10)) c).1 + 1, if (hoF ok (fun c => dgM 4 c (v % 10)) c).1 = 0 then c else (hoF ok (fun c => dgM 4 c (v % 10)) c).2.1, if (hoF ok (fun c => dgM 4 c (v % 10)) c).1 = 0 then dgM 4 c (v % 10) else min (hoF ok (fun c => dgM 4 c (v % 10)) c).2.2.1 (dgM 4 c (v % 10)), if (hoF ok (fun c => dgM 4 c (v % 10)) c).1 = 0 then dgM 4 c (v % 10) else max (hoF ok (fun c => dgM 4 c (v % 10)) c).2.2.2 (dgM 4 c (v % 10))) else hoF ok (fun c => dgM 4 c (v % 10)) c := rfl
      have ih := ih (c + 1)
      rw [ns] at ih
      generalize hoF ok (fun c => dgM 4 c (v % 10)) c = s at b1 b2 b3 b4 ih ⊢
      have skip : ∀ (I4 A4 : TI) (z : Value), Fr [(15, 4)] [11, 12, 16, 18] [] I A J I4 A4 J → ¬ ok c = true → am_T (am_EV X (d + 6) mX2_fittingMixes 104 [.ref 6, .ref 47, .int (nI h), .int (nI n), .int (nI v), .int (nI s.1), .int (tN s.1 s.2.1), .int (tN s.1 s.2.2.1), .int (tN s.1 s.2.2.2), .int (nI c), z] [] (am_wd I4 A4 J)) (oI (hoA v (hoF ok (fun c => dgM 4 c (v % 10)) 256)) fun I' A' J' => Fr [(15, 4)] [11, 12, 16, 18] [] I A J I' A' J') := by
        intro I4 A4 z f4 q
        rw [if_neg q] at ih
        have nx := ih I4 A4 z (by omega) f4
        simp only [sX2_fittingMixes_104, sX2_fittingMixes_107, am_n1]
        exact nx
      rw [sX2_fittingMixes_18]
      simp only [sX2_fittingMixes_20, sX2_fittingMixes_23, sX2_fittingMixes_26, sX2_fittingMixes_27, sX2_fittingMixes_29, sX2_fittingMixes_30, sX2_fittingMixes_31, am_rt_some, am_rt_void, am_rt_none, am_rt_ite, ↓reduceIte, if_true, if_false, and_self, true_and, and_true, true_or, or_true, Bool.false_eq_true, reduceCtorEq, hlt]
      rw [show (4 : Int32) = nI 4 from rfl, sX2_fittingMixes_32]
      simp only [wo_6, wf_6_0, wv_6_0, wf_6_1, wv_6_1, wf_6_2, wv_6_2, wp_6_2, wf_6_3, wv_6_3, wf_6_4, wv_6_4, wf_6_5, wv_6_5, wf_6_6, wv_6_6, wp_6_6, am_rt_some, am_rt_void, am_rt_none, am_rt_ite, ↓reduceIte, if_true, if_false, and_self, true_and, and_true, true_or, or_true, Bool.false_eq_true, reduceCtorEq]
      refine am_T.rtI (c_isMixOf (base := 4) (code := c) (h := h) (by decide) (by decide) (by omega) hh) ?_
      intro I2 A2 J2 ⟨f2, g2⟩
      have j2 : J2 = J := f2.jeq
      subst j2
      rw [e47] at g2 ⊢
      have F2 := f.tr (f2.mo (li' := [(15, 4)]) (la' := [11, 12, 16, 18]) (by decide) (by decide) (by decide))
      by_cases mc : mayM 4 c (fun k => A 47 (8 * h + k)) 4 = true
      case neg =>
        simp only [mc, if_false, sX2_fittingMixes_35, am_rt_some, am_rt_void, am_rt_none, am_rt_ite, ↓reduceIte, if_true, if_false, and_self, true_and, and_true, true_or, or_true, Bool.false_eq_true, reduceCtorEq]
        exact skip I2 A2 z10 F2 (fun y => mc (by rw [hok c, Bool.and_eq_true] at y; exact y.1))
      have g2 := g2 mc
      simp only [mc, if_true, sX2_fittingMixes_35, sX2_fittingMixes_38, sX2_fittingMixes_39, am_rt_some, am_rt_void, am_rt_none, am_rt_ite, ↓reduceIte, if_true, if_false, and_self, true_and, and_true, true_or, or_true, Bool.false_eq_true, reduceCtorEq, show ((1 : Int32) = 0) = False by decide]
      rw [sX2_fittingMixes_40]
      simp only [wo_6, wf_6_0, wv_6_0, wf_6_1, wv_6_1, wf_6_2, wv_6_2, wp_6_2, wf_6_3, wv_6_3, wf_6_4, wv_6_4, wf_6_5, wv_6_5, wf_6_6, wv_6_6, wp_6_6, am_rt_some, am_rt_void, am_rt_none, am_rt_ite, ↓reduceIte, if_true, if_false, and_self, true_and, and_true, true_or, or_true, Bool.false_eq_true, reduceCtorEq]
      refine am_T.rtI (c_fits (t_lac F2 (by decide) hG) (by omega) (fun j hj => by rw [g2 j hj]; exact mxM_09 (by decide) (by decide)) (nG G (A 13) (I 6 2) 4 n c) (fun i hi => ?_)) ?_
      · unfold nG
        rw [F2.i 6 2 (by decide), suF_cg (th' := mxM 4 c) (st' := A 13) hi (Nat.le_refl 8) g2 (fun j hj => by rw [F2.a 13 (by decide)]), smf_cg g2]
      intro I3 A3 J3 f3
      have j3 : J3 = J2 := f3.jeq
      subst j3
      have F3 := F2.tr (f3.mo (li' := [(15, 4)]) (la' := [11, 12, 16, 18]) (by decide) (by decide) (by decide))
      rw [F2.a 14 (by decide)]
      by_cases ft : fitF (nG G (A 13) (I 6 2) 4 n c) (A 14) 5 = true
      case neg =>
        simp only [ft, if_false, sX2_fittingMixes_43, am_rt_some, am_rt_void, am_rt_none, am_rt_ite, ↓reduceIte, if_true, if_false, and_self, true_and, and_true, true_or, or_true, Bool.false_eq_true, reduceCtorEq]
        exact skip I3 A3 z10 F3 (fun y => ft (by rw [hok c, Bool.and_eq_true] at y; exact y.2))
      have okc : ok c = true := by rw [hok c, mc, ft]; rfl
      rw [if_pos okc] at ih
      have s0 : (nI s.1 = 0) = (s.1 = 0) := i_eq (b := 0) (by omega) (by decide)
      have t1 : ∀ x, tN (s.1 + 1) x = nI x := fun x => if_neg (Nat.succ_ne_zero _)
      simp only [ft, if_true, sX2_fittingMixes_43, sX2_fittingMixes_46, sX2_fittingMixes_48, sX2_fittingMixes_49, sX2_fittingMixes_51, am_rt_some, am_rt_void, am_rt_none, am_rt_ite, ↓reduceIte, if_true, if_false, and_self, true_and, and_true, true_or, or_true, Bool.false_eq_true, reduceCtorEq, show ((1 : Int32) = 0) = False by decide]
      rw [sX2_fittingMixes_53]
      simp only [q10, if_false, d10 (show v < 2147483648 by omega), r10 (show v < 2147483648 by omega)]
      rw [show (4 : Int32) = nI 4 from rfl, sX2_fittingMixes_54, c_digit (base := 4) (by decide) (by decide) (by omega) hv]
      by_cases z : s.1 = 0
      · have tz : ∀ x, tN s.1 x = -2 := fun x => if_pos z
        simp only [if_pos z, t1] at ih
        have nx := ih I3 A3 (.int (nI (dgM 4 c (v % 10)))) (by omega) F3
        simp only [sX2_fittingMixes_57, sX2_fittingMixes_59, sX2_fittingMixes_61, sX2_fittingMixes_64, sX2_fittingMixes_66, sX2_fittingMixes_69, sX2_fittingMixes_71, sX2_fittingMixes_73, sX2_fittingMixes_75, sX2_fittingMixes_78, sX2_fittingMixes_80, sX2_fittingMixes_83, sX2_fittingMixes_85, sX2_fittingMixes_87, sX2_fittingMixes_90, sX2_fittingMixes_92, sX2_fittingMixes_94, sX2_fittingMixes_96, sX2_fittingMixes_99, sX2_fittingMixes_101, sX2_fittingMixes_104, sX2_fittingMixes_107, am_rt_some, am_rt_void, am_rt_none, am_rt_ite, ↓reduceIte, if_true, if_false, and_self, true_and, and_true, true_or, or_true, Bool.false_eq_true, reduceCtorEq, s0, eq_true z, tz, m2a (show dgM 4 c (v % 10) < 1000 by omega), am_n1]
        exact nx
      · have tz : ∀ x, tN s.1 x = nI x := fun x => if_neg z
        simp only [if_neg z, t1] at ih
        have nx := ih I3 A3 (.int (nI (dgM 4 c (v % 10)))) (by omega) F3
        simp only [sX2_fittingMixes_57, sX2_fittingMixes_59, sX2_fittingMixes_61, sX2_fittingMixes_64, sX2_fittingMixes_66, sX2_fittingMixes_69, sX2_fittingMixes_71, sX2_fittingMixes_73, sX2_fittingMixes_75, sX2_fittingMixes_78, sX2_fittingMixes_80, sX2_fittingMixes_83, sX2_fittingMixes_85, sX2_fittingMixes_87, sX2_fittingMixes_90, sX2_fittingMixes_92, sX2_fittingMixes_94, sX2_fittingMixes_96, sX2_fittingMixes_99, sX2_fittingMixes_101, sX2_fittingMixes_104, sX2_fittingMixes_107, am_rt_some, am_rt_void, am_rt_none, am_rt_ite, ↓reduceIte, if_true, if_false, and_self, true_and, and_true, true_or, or_true, Bool.false_eq_true, reduceCtorEq, s0, z, tz, mnI (show s.2.2.1 < 1000 by omega) (show dgM 4 c (v % 10) < 1000 by omega), mxJ (show s.2.2.2 < 1000 by omega) (show dgM 4 c (v % 10) < 1000 by omega), am_n1]
        exact nx
  simp only [eX2_fittingMixes, sX2_fittingMixes_0, sX2_fittingMixes_1, sX2_fittingMixes_3, sX2_fittingMixes_5, sX2_fittingMixes_7, sX2_fittingMixes_9, sX2_fittingMixes_11, sX2_fittingMixes_13, sX2_fittingMixes_15, sX2_fittingMixes_16]
  exact key 256 0 I A _ rfl Fr.rf
def ofT (x : Int32) : Prop := (¬ x < 10 ∧ x < 14) ∨ (¬ x < 20 ∧ x < 24)
theorem c_ihE {s o x : Int32} {Q} (h : ∀ z : Value, am_T (am_EV X d mX10_inHouse 31 [.ref 0, .int s, .int o, .int x, .int (if (¬ x < 10 ∧ x < 14) ∨ (¬ x < 20 ∧ x < 24) then 1 else 0), z] [] w) Q) : am_T (am_CL X (d + 1) mX10_inHouse [.ref 0, .int s, .int o, .int x] w) Q := by
  by_cases h1 : x < 10 <;> by_cases h2 : x < 14 <;> by_cases h3 : x < 20 <;> by_cases h4 : x < 24 <;> simp only [h1, h2, h3, h4, not_true_eq_false, not_false_eq_true, and_true, true_and, and_false, false_and, or_true, true_or, or_false, false_or, if_true, if_false, and_self, or_self] at h <;> simp only [eX10_inHouse, sX10_inHouse_0, sX10_inHouse_1, sX10_inHouse_3, sX10_inHouse_6, sX10_inHouse_7, sX10_inHouse_9, sX10_inHouse_12, sX10_inHouse_13, sX10_inHouse_15, sX10_inHouse_18, sX10_inHouse_19, sX10_inHouse_21, sX10_inHouse_24, sX10_inHouse_25, sX10_inHouse_28, sX10_inHouse_29, am_rt_some, am_rt_void, am_rt_none, am_rt_ite, ↓reduceIte, if_true, if_false, and_self, true_and, and_true, true_or, or_true, Bool.false_eq_true, reduceCtorEq, h1, h2, h3, h4] <;> exact h _
theorem w_01 {x : Int32} : (¬ x < 0 ∧ ¬ 1 < x) = (x = 0 ∨ x = 1) := propext ⟨fun h => by
  obtain ⟨j, hj, rfl⟩ := i_ofle (n := 1) (by decide) h.1 h.2
  rcases (by omega : j = 0 ∨ j = 1) with rfl | rfl
  · exact Or.inl rfl
  · exact Or.inr rfl, fun h => by rcases h with rfl | rfl <;> exact ⟨by decide, by decide⟩⟩
theorem w_13 {x : Int32} : (¬ x < 10 ∧ ¬ 13 < x) = (¬ x < 10 ∧ x < 14) := by
  have e14 : (14 : Int32).toInt = 14 := rfl
  have e13 : (13 : Int32).toInt = 13 := rfl
  refine propext ⟨fun h => ⟨h.1, ?_⟩, fun h => ⟨h.1, ?_⟩⟩
  · have := h.2; rw [Int32.lt_iff_toInt_lt] at this ⊢; omega
  · have := h.2; rw [Int32.lt_iff_toInt_lt] at this ⊢; omega
theorem w_23 {x : Int32} : (¬ x < 20 ∧ ¬ 23 < x) = (¬ x < 20 ∧ x < 24) := by
  have e14 : (24 : Int32).toInt = 24 := rfl
  have e13 : (23 : Int32).toInt = 23 := rfl
  refine propext ⟨fun h => ⟨h.1, ?_⟩, fun h => ⟨h.1, ?_⟩⟩
  · have := h.2; rw [Int32.lt_iff_toInt_lt] at this ⊢; omega
  · have := h.2; rw [Int32.lt_iff_toInt_lt] at this ⊢; omega
/-- what is asked, as a number -/
theorem w_of {x : Int32} (h : (x = 0 ∨ x = 1) ∨ (¬ x < 10 ∧ x < 14) ∨ (¬ x < 20 ∧ x < 24)) : ∃ v : Nat, okW v ∧ x = nI v := by
  rcases h with (rfl | rfl) | h | h
  · exact ⟨0, Or.inl rfl, rfl⟩
  · exact ⟨1, Or.inr (Or.inl rfl), rfl⟩
  · have p : ¬ x < 0 := fun y => h.1 (by
      rw [Int32.lt_iff_toInt_lt] at y ⊢
      have e0 : (0 : Int32).toInt = 0 := rfl
      have e10 : (10 : Int32).toInt = 10 := rfl
      omega)
    obtain ⟨j, hj, rfl⟩ := i_of (n := 14) (by decide) p h.2
    have h1 := h.1
    rw [am_nlit (x := 10) 10 rfl (show j < 2147483648 by omega) (by decide)] at h1
    exact ⟨j, Or.inr (Or.inr (Or.inl ⟨by omega, hj⟩)), rfl⟩
  · have p : ¬ x < 0 := fun y => h.1 (by
      rw [Int32.lt_iff_toInt_lt] at y ⊢
      have e0 : (0 : Int32).toInt = 0 := rfl
      have e10 : (20 : Int32).toInt = 20 := rfl
      omega)
    obtain ⟨j, hj, rfl⟩ := i_of (n := 24) (by decide) p h.2
    have h1 := h.1
    rw [am_nlit (x := 20) 20 rfl (show j < 2147483648 by omega) (by decide)] at h1
    exact ⟨j, Or.inr (Or.inr (Or.inr ⟨by omega, hj⟩)), rfl⟩
end IH

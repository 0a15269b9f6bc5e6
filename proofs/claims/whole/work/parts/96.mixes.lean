/-! the mixes of things 0 to 3 by a code: both -/
section MX
variable {X : Nat × (Nat → Int32)} {d : Nat} {I A : TI} {J : TJ} {w : am_W}
/-- a code's digit for a thing: of thing 0 weighs most -/
def lfM (base code : Nat) : Nat → Nat
  | 0 => code
  | n + 1 => lfM base code n / base
def dgM (base code k : Nat) : Nat := lfM base code (3 - k) % base
def mxM (base code : Nat) (j : Nat) : Int32 := if j < 4 then nI (dgM base code j) else 0
def mayM (base code : Nat) (hs : Nat → Int32) : Nat → Bool
  | 0 => true
  | n + 1 => mayM base code hs n && decide (¬ hs n < mxM base code n)
theorem lfM_le {base code : Nat} : ∀ n, lfM base code n ≤ code
  | 0 => Nat.le_refl _
  | n + 1 => Nat.le_trans (Nat.div_le_self _ _) (lfM_le n)
theorem dgM_lt {base code k : Nat} (hb : 0 < base) : dgM base code k < base := Nat.mod_lt _ hb
theorem i_divB {a b : Nat} (ha : a < 2147483648) (hb : b < 2147483648) (h0 : 0 < b) : nI a / nI b = nI (a / b) := i_div ha hb h0
theorem c_digit {base code k : Nat} (hb : 0 < base) (hb2 : base < 10) (hc : code < 1000) (hk : k < 4) : am_CL X (d + 1) mX2_digit [.int (nI code), .int (nI base), .int (nI k)] w = some (some (.int (nI (dgM base code k))), w) := by
  have b0 : (0 : Int32) < nI base := nI_lt (a := 0) hb (by omega)
  have bne : (nI base = 0) = False := eq_false (nI_ne0 hb (by omega))
  have key : ∀ (m n : Nat), n + m = 3 - k → am_EV X d mX2_digit 5 [.int (nI code), .int (nI base), .int (nI k), .int (nI (lfM base code n)), .int (nI (3 - n))] [] w = some (some (.int (nI (dgM base code k))), w) := by
    intro m
    induction m with
    | zero =>
      intro n hn
      have n3 : 3 - n = k := by omega
      have lt : (nI k < nI (3 - n)) = False := by rw [n3, am_nlt (by omega) (by omega)]; exact eq_false (by omega)
      have hl := lfM_le (base := base) (code := code) n
      have er : nI (lfM base code n) - nI (lfM base code n) / nI base * nI base = nI (dgM base code k) := by
        have := i_rem (a := lfM base code n) (b := base) (by omega) (by omega) hb
        rw [this, show n = 3 - k by omega]; rfl
      simp only [sX2_digit_5, sX2_digit_7, sX2_digit_8, sX2_digit_29, sX2_digit_30, sX2_digit_33, sX2_digit_34, sX2_digit_35, sX2_digit_36, sX2_digit_39, sX2_digit_40, am_rt_some, am_rt_void, am_rt_none, am_rt_ite, ↓reduceIte, if_true, if_false, and_self, true_and, and_true, true_or, or_true, Bool.false_eq_true, reduceCtorEq, lt, b0, bne, er]
    | succ m ih =>
      intro n hn
      have nx := ih (n + 1) (by omega)
      have lt : (nI k < nI (3 - n)) = True := eq_true (nI_lt (by omega) (by omega))
      have hl := lfM_le (base := base) (code := code) n
      have ed : nI (lfM base code n) / nI base = nI (lfM base code (n + 1)) := i_div (by omega) (by omega) hb
      have em : nI (3 - n) + -1 = nI (3 - (n + 1)) := by
        rcases (by omega : n = 0 ∨ n = 1 ∨ n = 2) with rfl | rfl | rfl <;> decide
      rw [sX2_digit_5]
      simp only [sX2_digit_7, sX2_digit_8, sX2_digit_11, sX2_digit_12, sX2_digit_15, sX2_digit_16, sX2_digit_17, sX2_digit_18, sX2_digit_21, sX2_digit_22, sX2_digit_23, sX2_digit_26, am_rt_some, am_rt_void, am_rt_none, am_rt_ite, ↓reduceIte, if_true, if_false, and_self, true_and, and_true, true_or, or_true, Bool.false_eq_true, reduceCtorEq, lt, b0, bne, ed, em]
      exact nx
  simp only [eX2_digit, sX2_digit_0, sX2_digit_1, sX2_digit_2, sX2_digit_3]
  exact key (3 - k) 0 (by omega)
theorem c_isMixOf {base code h : Nat} (hb : 0 < base) (hb2 : base < 10) (hc : code < 1000) (hh : h < 6) : am_T (am_CL X (d + 3) mX2_isMixOf [.ref 6, .int (nI code), .int (nI base), .ref 47, .int (nI h)] (am_wd I A J)) (oI (if mayM base code (fun k => A 47 (8 * h + k)) 4 = true then 1 else 0) fun I' A' J' => Fr [] [16] [] I A J I' A' J' ∧ (mayM base code (fun k => A 47 (8 * h + k)) 4 = true → ∀ j, j < 8 → A' 16 j = mxM base code j)) := by
  have mf : ∀ n m, n ≤ m → mayM base code (fun k => A 47 (8 * h + k)) n = false → mayM base code (fun k => A 47 (8 * h + k)) m = false := by
    intro n m hm hf
    induction m with
    | zero => rw [show n = 0 by omega] at hf; exact hf
    | succ m ih =>
      by_cases y : n = m + 1
      · rw [← y]; exact hf
      · show (mayM base code _ m && _) = false
        rw [ih (by omega), Bool.false_and]
  have key : ∀ (m k : Nat) (A1 : TI) (z : Value), k + m = 4 → Fr [] [16] [] I A J I A1 J → mayM base code (fun k => A 47 (8 * h + k)) k = true → (∀ j, j < 8 → A1 16 j = if j < k then mxM base code j else 0) → am_T (am_EV X (d + 2) mX2_isMixOf 14 [.ref 6, .int (nI code), .int (nI base), .ref 47, .int (nI h), .int (nI k), z] [] (am_wd I A1 J)) (oI (if mayM base code (fun k => A 47 (8 * h + k)) 4 = true then 1 else 0) fun I' A' J' => Fr [] [16] [] I A J I' A' J' ∧ (mayM base code (fun k => A 47 (8 * h + k)) 4 = true → ∀ j, j < 8 → A' 16 j = mxM base code j)) := by
    intro m
    induction m with
    | zero =>
      intro k A1 z hk f g1 g2
      have k4 : k = 4 := by omega
      subst k4
      simp only [sX2_isMixOf_14, sX2_isMixOf_16, sX2_isMixOf_17, sX2_isMixOf_63, sX2_isMixOf_64, am_rt_some, am_rt_void, am_rt_none, am_rt_ite, ↓reduceIte, if_true, if_false, and_self, true_and, and_true, true_or, or_true, Bool.false_eq_true, reduceCtorEq, show (nI 4 < 4) = False by decide, g1, not_true_eq_false, not_false_eq_true, false_and, and_false, true_and, and_true, and_self, or_self, true_or, or_true, false_or, or_false, ite_self, kEm14_m11, kEm14_m2, kEm14_m1, kEm14_0, kEm14_1, kEm14_2, kEm14_3, kEm14_4, kEm13_m11, kEm13_m2, kEm13_m1, kEm13_0, kEm13_1, kEm13_2, kEm13_3, kEm13_4, kEm12_m11, kEm12_m2, kEm12_m1, kEm12_0, kEm12_1, kEm12_2, kEm12_3, kEm12_4, kEm11_m2, kEm11_m1, kEm11_0, kEm11_1, kEm11_2, kEm11_3, kEm11_4, kEm5_m11, kEm5_m2, kEm5_m1, kEm5_0, kEm5_1, kEm5_2, kEm5_3, kEm5_4, kEm3_m11, kEm3_m2, kEm3_m1, kEm3_0, kEm3_1, kEm3_2, kEm3_3, kEm3_4, kEm2_m11, kEm2_m1, kEm2_0, kEm2_1, kEm2_2, kEm2_3, kEm2_4, kEm1_m11, kEm1_m2, kEm1_0, kEm1_1, kEm1_2, kEm1_3, kEm1_4, kE0_m11, kE0_m2, kE0_m1, kE0_1, kE0_2, kE0_3, kE0_4, kE1_m11, kE1_m2, kE1_m1, kE1_0, kE1_2, kE1_3, kE1_4, kE2_m11, kE2_m2, kE2_m1, kE2_0, kE2_1, kE2_3, kE2_4, kE3_m11, kE3_m2, kE3_m1, kE3_0, kE3_1, kE3_2, kE3_4, kE4_m11, kE4_m2, kE4_m1, kE4_0, kE4_1, kE4_2, kE4_3, kE5_m11, kE5_m2, kE5_m1, kE5_0, kE5_1, kE5_2, kE5_3, kE5_4, kE6_m11, kE6_m2, kE6_m1, kE6_0, kE6_1, kE6_2, kE6_3, kE6_4, kE7_m11, kE7_m2, kE7_m1, kE7_0, kE7_1, kE7_2, kE7_3, kE7_4, kE8_m11, kE8_m2, kE8_m1, kE8_0, kE8_1, kE8_2, kE8_3, kE8_4, kLm14_0, kLm14_1, kLm13_0, kLm13_1, kLm12_0, kLm12_1, kLm11_0, kLm11_1, kLm5_0, kLm5_1, kLm3_0, kLm3_1, kLm2_0, kLm2_1, kLm1_0, kLm1_1, kL0_0, kL0_1, kL1_0, kL1_1, kL2_0, kL2_1, kL3_0, kL3_1, kL4_0, kL4_1, kL5_0, kL5_1, kL6_0, kL6_1, kL7_0, kL7_1, kL8_0, kL8_1]
      refine am_T.ri ⟨f, fun _ j hj => ?_⟩
      rw [g2 j hj]
      unfold mxM
      by_cases y : j < 4
      · rw [if_pos y]
      · rw [if_neg y, if_neg y]
    | succ m ih =>
      intro k A1 z hk f g1 g2
      have hlt : (nI k < 4) = True := by rw [am_nlit (x := 4) 4 rfl (show k < 2147483648 by omega) (by decide)]; exact eq_true (by omega)
      have e47 : A1 47 = A 47 := f.a 47 (by decide)
      have mo : mayM base code (fun k => A 47 (8 * h + k)) (k + 1) = decide (¬ A 47 (8 * h + k) < mxM base code k) := by
        show (mayM base code _ k && _) = _
        rw [g1, Bool.true_and]
      have mk : mxM base code k = nI (dgM base code k) := if_pos (by omega)
      rw [sX2_isMixOf_14]
      simp only [sX2_isMixOf_16, sX2_isMixOf_17, sX2_isMixOf_20, sX2_isMixOf_21, sX2_isMixOf_22, sX2_isMixOf_24, sX2_isMixOf_27, sX2_isMixOf_29, sX2_isMixOf_31, sX2_isMixOf_32, sX2_isMixOf_34, sX2_isMixOf_36, sX2_isMixOf_39, sX2_isMixOf_39_f, sX2_isMixOf_40, wi_47, wg_47, ws_47, ww_47, wl_47, wn_47, am_rt_some, am_rt_void, am_rt_none, am_rt_ite, ↓reduceIte, if_true, if_false, and_self, true_and, and_true, true_or, or_true, Bool.false_eq_true, reduceCtorEq, hlt, c_digit hb hb2 hc (show k < 4 by omega), c_larder, i85, am_nin (show 8 * h + k < 48 by omega) (show (48 : Nat) < 2147483648 by omega), am_ncl (show 8 * h + k < 2147483648 by omega), e47]
      by_cases q : A 47 (8 * h + k) < nI (dgM base code k)
      · have g4 : mayM base code (fun k => A 47 (8 * h + k)) 4 = false := mf (k + 1) 4 (by omega) (by rw [mo, mk]; exact decide_eq_false (fun y => y q))
        simp only [q, if_true, sX2_isMixOf_43, sX2_isMixOf_44, g4, Bool.false_eq_true, if_false, not_true_eq_false, not_false_eq_true, false_and, and_false, true_and, and_true, and_self, or_self, true_or, or_true, false_or, or_false, ite_self, kEm14_m11, kEm14_m2, kEm14_m1, kEm14_0, kEm14_1, kEm14_2, kEm14_3, kEm14_4, kEm13_m11, kEm13_m2, kEm13_m1, kEm13_0, kEm13_1, kEm13_2, kEm13_3, kEm13_4, kEm12_m11, kEm12_m2, kEm12_m1, kEm12_0, kEm12_1, kEm12_2, kEm12_3, kEm12_4, kEm11_m2, kEm11_m1, kEm11_0, kEm11_1, kEm11_2, kEm11_3, kEm11_4, kEm5_m11, kEm5_m2, kEm5_m1, kEm5_0, kEm5_1, kEm5_2, kEm5_3, kEm5_4, kEm3_m11, kEm3_m2, kEm3_m1, kEm3_0, kEm3_1, kEm3_2, kEm3_3, kEm3_4, kEm2_m11, kEm2_m1, kEm2_0, kEm2_1, kEm2_2, kEm2_3, kEm2_4, kEm1_m11, kEm1_m2, kEm1_0, kEm1_1, kEm1_2, kEm1_3, kEm1_4, kE0_m11, kE0_m2, kE0_m1, kE0_1, kE0_2, kE0_3, kE0_4, kE1_m11, kE1_m2, kE1_m1, kE1_0, kE1_2, kE1_3, kE1_4, kE2_m11, kE2_m2, kE2_m1, kE2_0, kE2_1, kE2_3, kE2_4, kE3_m11, kE3_m2, kE3_m1, kE3_0, kE3_1, kE3_2, kE3_4, kE4_m11, kE4_m2, kE4_m1, kE4_0, kE4_1, kE4_2, kE4_3, kE5_m11, kE5_m2, kE5_m1, kE5_0, kE5_1, kE5_2, kE5_3, kE5_4, kE6_m11, kE6_m2, kE6_m1, kE6_0, kE6_1, kE6_2, kE6_3, kE6_4, kE7_m11, kE7_m2, kE7_m1, kE7_0, kE7_1, kE7_2, kE7_3, kE7_4, kE8_m11, kE8_m2, kE8_m1, kE8_0, kE8_1, kE8_2, kE8_3, kE8_4, kLm14_0, kLm14_1, kLm13_0, kLm13_1, kLm12_0, kLm12_1, kLm11_0, kLm11_1, kLm5_0, kLm5_1, kLm3_0, kLm3_1, kLm2_0, kLm2_1, kLm1_0, kLm1_1, kL0_0, kL0_1, kL1_0, kL1_1, kL2_0, kL2_1, kL3_0, kL3_1, kL4_0, kL4_1, kL5_0, kL5_1, kL6_0, kL6_1, kL7_0, kL7_1, kL8_0, kL8_1]
        exact am_T.ri ⟨f, fun y => y.elim⟩
      · simp only [q, if_false, sX2_isMixOf_45, sX2_isMixOf_46, sX2_isMixOf_49, sX2_isMixOf_52, sX2_isMixOf_54, sX2_isMixOf_56, sX2_isMixOf_57, sX2_isMixOf_60, wo_6, wf_6_0, wv_6_0, wf_6_1, wv_6_1, wf_6_2, wv_6_2, wp_6_2, wf_6_3, wv_6_3, wf_6_4, wv_6_4, wf_6_5, wv_6_5, wf_6_6, wv_6_6, wp_6_6, wo_15, wf_15_0, wv_15_0, wf_15_1, wv_15_1, wf_15_2, wv_15_2, wp_15_2, wf_15_3, wv_15_3, wf_15_4, wv_15_4, wp_15_4, wi_16, wg_16, ws_16, ww_16, wl_16, wn_16, am_rt_some, am_rt_void, am_rt_none, am_rt_ite, ↓reduceIte, if_true, if_false, and_self, true_and, and_true, true_or, or_true, Bool.false_eq_true, reduceCtorEq, am_nin (show k < 8 by omega) (show (8 : Nat) < 2147483648 by omega), am_ncl (show k < 2147483648 by omega), am_n1]
        refine ih (k + 1) _ _ (by omega) (f.ua (by decide)) (by rw [mo, mk]; exact decide_eq_true q) (fun j hj => ?_)
        rw [am_u_at]
        by_cases y : j = k
        · subst y; rw [upd_at, if_pos (by omega), mk]
        · rw [upd_ne y, g2 j hj]
          by_cases y2 : j < k
          · rw [if_pos y2, if_pos (by omega)]
          · rw [if_neg y2, if_neg (by omega)]
  simp only [eX2_isMixOf, sX2_isMixOf_0, sX2_isMixOf_1, sX2_isMixOf_4, sX2_isMixOf_7, sX2_isMixOf_8, wo_6, wf_6_0, wv_6_0, wf_6_1, wv_6_1, wf_6_2, wv_6_2, wp_6_2, wf_6_3, wv_6_3, wf_6_4, wv_6_4, wf_6_5, wv_6_5, wf_6_6, wv_6_6, wp_6_6, wo_15, wf_15_0, wv_15_0, wf_15_1, wv_15_1, wf_15_2, wv_15_2, wp_15_2, wf_15_3, wv_15_3, wf_15_4, wv_15_4, wp_15_4, am_rt_some, am_rt_void, am_rt_none, am_rt_ite, ↓reduceIte, if_true, if_false, and_self, true_and, and_true, true_or, or_true, Bool.false_eq_true, reduceCtorEq]
  rw [c_fillI (n := 8) (by decide) (wr_16)]
  simp only [am_rt_some, am_rt_void, am_rt_none, am_rt_ite, ↓reduceIte, if_true, if_false, and_self, true_and, and_true, true_or, or_true, Bool.false_eq_true, reduceCtorEq, sX2_isMixOf_11, sX2_isMixOf_12, wi_16, wg_16, ws_16, ww_16, wl_16, wn_16]
  exact key 4 0 _ _ rfl (Fr.rf.ua (by decide)) rfl (fun j hj => by rw [am_u_at, if_neg (Nat.not_lt_zero j)]; unfold am_flI; rw [if_pos hj])
theorem mayM_cg {base code : Nat} {a b : Nat → Int32} : ∀ {n : Nat}, (∀ j, j < n → a j = b j) → mayM base code a n = mayM base code b n
  | 0, _ => rfl
  | n + 1, h => by
    show (mayM base code a n && _) = (mayM base code b n && _)
    rw [mayM_cg (n := n) (fun j hj => h j (by omega)), h n (by omega)]
def mayD (base code : Nat) (hs : Nat → Int32) : Nat → Bool
  | 0 => true
  | n + 1 => mayD base code hs n && decide (¬ hs (7 - n) < mxM base code (7 - n))
theorem mayD_is {base code : Nat} {hs : Nat → Int32} (h : ∀ j, j < 8 → in09 (hs j)) : mayD base code hs 8 = mayM base code hs 4 := by
  have hi : ∀ j, 4 ≤ j → j < 8 → decide (¬ hs j < mxM base code j) = true := fun j h1 h2 => by
    have : mxM base code j = 0 := if_neg (by omega)
    rw [this]
    exact decide_eq_true (h j h2).1
  show ((((((((true && decide (¬ hs 7 < mxM base code 7)) && decide (¬ hs 6 < mxM base code 6)) && decide (¬ hs 5 < mxM base code 5)) && decide (¬ hs 4 < mxM base code 4)) && decide (¬ hs 3 < mxM base code 3)) && decide (¬ hs 2 < mxM base code 2)) && decide (¬ hs 1 < mxM base code 1)) && decide (¬ hs 0 < mxM base code 0)) = ((((true && decide (¬ hs 0 < mxM base code 0)) && decide (¬ hs 1 < mxM base code 1)) && decide (¬ hs 2 < mxM base code 2)) && decide (¬ hs 3 < mxM base code 3))
  rw [hi 7 (by decide) (by decide), hi 6 (by decide) (by decide), hi 5 (by decide) (by decide), hi 4 (by decide) (by decide)]
  cases decide (¬ hs 0 < mxM base code 0) <;> cases decide (¬ hs 1 < mxM base code 1) <;> cases decide (¬ hs 2 < mxM base code 2) <;> cases decide (¬ hs 3 < mxM base code 3) <;> rfl
theorem r_setMix {base code h : Nat} (hb : 0 < base) (hb2 : base < 10) (hc : code < 1000) (hh : h < 6) (h09 : ∀ j, j < 8 → in09 (A 82 (40 + 8 * h + j))) : am_T (am_CL X (d + 2) mX11_setMix [.ref 81, .int (nI h), .int (nI code), .int (nI (base - 1))] (am_wd I A J)) (oI (if mayM base code (fun k => A 82 (40 + 8 * h + k)) 4 = true then 1 else 0) fun I' A' J' => Fr [] [92] [] I A J I' A' J' ∧ ∀ j, j < 8 → A' 92 j = mxM base code j) := by
  have eb : nI (base - 1) + 1 = nI base := by rw [am_n1]; congr 1; omega
  have bne : (nI base = 0) = False := eq_false (nI_ne0 hb (by omega))
  rw [← mayD_is h09]
  -- n done of eight, the thing 7 - n is next
  have key : ∀ (m n : Nat) (A1 : TI), n + m = 8 → Fr [] [92] [] I A J I A1 J → (∀ j, 8 - n ≤ j → j < 8 → A1 92 j = mxM base code j) → am_T (am_EV X (d + 1) mX11_setMix 10 [.ref 81, .int (nI h), .int (nI code), .int (nI (base - 1)), .int (nI (lfM base code (n - 4))), .int (if mayD base code (fun k => A 82 (40 + 8 * h + k)) n = true then 1 else 0), .int (7 - nI n)] [] (am_wd I A1 J)) (oI (if mayD base code (fun k => A 82 (40 + 8 * h + k)) 8 = true then 1 else 0) fun I' A' J' => Fr [] [92] [] I A J I' A' J' ∧ ∀ j, j < 8 → A' 92 j = mxM base code j) := by
    intro m
    induction m with
    | zero =>
      intro n A1 hn f g
      have n8 : n = 8 := by omega
      subst n8
      simp only [sX11_setMix_10, sX11_setMix_12, sX11_setMix_92, sX11_setMix_94, am_rt_some, am_rt_void, am_rt_none, am_rt_ite, ↓reduceIte, if_true, if_false, and_self, true_and, and_true, true_or, or_true, Bool.false_eq_true, reduceCtorEq, show (7 - nI 8 < 0) = True by decide, am_bi_01]
      exact am_T.ri ⟨f, fun j hj => g j (by omega) hj⟩
    | succ m ih =>
      intro n A1 hn f g
      have e7 : (7 : Int32) - nI n = nI (7 - n) := by rw [show (7 : Int32) = nI 7 from rfl, i_sub (by omega)]
      have em : nI (7 - n) + -1 = 7 - nI (n + 1) := by
        rcases (by omega : n = 0 ∨ n = 1 ∨ n = 2 ∨ n = 3 ∨ n = 4 ∨ n = 5 ∨ n = 6 ∨ n = 7) with rfl | rfl | rfl | rfl | rfl | rfl | rfl | rfl <;> decide
      have n0 : (nI (7 - n) < 0) = False := am_n0 (by omega)
      have l4 : (nI (7 - n) < 4) = (7 - n < 4) := am_nlit (x := 4) 4 rfl (by omega) (by decide)
      have hl := lfM_le (base := base) (code := code) (n - 4)
      have ed : nI (lfM base code (n - 4)) / nI base = nI (lfM base code (n - 4) / base) := i_div (by omega) (by omega) hb
      have er : nI (lfM base code (n - 4)) - nI (lfM base code (n - 4) / base) * nI base = nI (lfM base code (n - 4) % base) := by
        rw [← ed]; exact i_rem (by omega) (by omega) hb
      have mo : mayD base code (fun k => A 82 (40 + 8 * h + k)) (n + 1) = (mayD base code (fun k => A 82 (40 + 8 * h + k)) n && decide (¬ A 82 (40 + 8 * h + (7 - n)) < mxM base code (7 - n))) := rfl
      have rh : ∀ (A2 : TI), A2 82 = A 82 → am_CL X (d + 1) mX11_has [.ref 81, .int (nI h), .int (nI (7 - n))] (am_wd I A2 J) = some (some (.int (A 82 (40 + 8 * h + (7 - n)))), am_wd I A2 J) := fun A2 e => by
        rw [r_has hh (by omega), e]
      have e82 : A1 82 = A 82 := f.a 82 (by decide)
      have nx := ih (n + 1) (am_u A1 92 (upd (A1 92) (7 - n) (mxM base code (7 - n)))) (by omega) (f.ua (by decide)) (fun j h1 h2 => by
        rw [am_u_at]
        by_cases y : j = 7 - n
        · subst y; rw [upd_at]
        · rw [upd_ne y]; exact g j (by omega) h2)
      rw [e7, sX11_setMix_10]
      by_cases q : 7 - n < 4
      · have hm : mxM base code (7 - n) = nI (lfM base code (n - 4) % base) := by
          unfold mxM dgM
          rw [if_pos q, show 3 - (7 - n) = n - 4 by omega]
        have hlf : lfM base code (n + 1 - 4) = lfM base code (n - 4) / base := by
          rw [show n + 1 - 4 = (n - 4) + 1 by omega]; rfl
        rw [hlf, mo] at nx
        rw [hm] at nx mo
        have rh1 := rh (am_u A1 92 (upd (A1 92) (7 - n) (nI (lfM base code (n - 4) % base)))) e82
        cases gm : mayD base code (fun k => A 82 (40 + 8 * h + k)) n with
        | false =>
          rw [gm, Bool.false_and] at nx
          simp only [Bool.false_eq_true, if_false] at nx ⊢
          simp only [sX11_setMix_12, sX11_setMix_15, sX11_setMix_16, sX11_setMix_19, sX11_setMix_21, sX11_setMix_23, sX11_setMix_24, sX11_setMix_27, sX11_setMix_29, sX11_setMix_30, sX11_setMix_31, sX11_setMix_32, sX11_setMix_33, sX11_setMix_36, sX11_setMix_37, sX11_setMix_38, sX11_setMix_40, sX11_setMix_41, sX11_setMix_44, sX11_setMix_46, sX11_setMix_47, sX11_setMix_48, sX11_setMix_49, sX11_setMix_50, sX11_setMix_53, sX11_setMix_55, sX11_setMix_57, sX11_setMix_59, sX11_setMix_83, sX11_setMix_84, sX11_setMix_86, sX11_setMix_89, wo_81, wf_81_0, wv_81_0, wf_81_1, wv_81_1, wp_81_1, wf_81_2, wv_81_2, wp_81_2, wf_81_3, wv_81_3, wf_81_4, wv_81_4, wf_81_5, wv_81_5, wf_81_6, wv_81_6, wp_81_6, wf_81_7, wv_81_7, wp_81_7, wf_81_8, wv_81_8, wf_81_9, wv_81_9, wp_81_9, wf_81_10, wv_81_10, wf_81_11, wv_81_11, wp_81_11, wf_81_12, wv_81_12, wp_81_12, wf_81_13, wv_81_13, wf_81_14, wv_81_14, wp_81_14, wf_81_15, wv_81_15, wp_81_15, wf_81_16, wv_81_16, wp_81_16, wf_81_17, wv_81_17, wp_81_17, wf_81_18, wv_81_18, wf_81_19, wv_81_19, wf_81_20, wv_81_20, wf_81_21, wv_81_21, wf_81_22, wv_81_22, wf_81_23, wv_81_23, wf_81_24, wv_81_24, wf_81_25, wv_81_25, wf_81_26, wv_81_26, wf_81_27, wv_81_27, wf_81_28, wv_81_28, wf_81_29, wv_81_29, wf_81_30, wv_81_30, wf_81_31, wv_81_31, wf_81_32, wv_81_32, wf_81_33, wv_81_33, wp_81_33, wf_81_34, wv_81_34, wf_81_35, wv_81_35, wp_81_35, wf_81_36, wv_81_36, wf_81_37, wv_81_37, wp_81_37, wf_81_38, wv_81_38, wf_81_39, wv_81_39, wf_81_40, wv_81_40, wf_81_41, wv_81_41, wf_81_42, wv_81_42, wp_81_42, wf_81_43, wv_81_43, wp_81_43, wf_81_44, wv_81_44, wp_81_44, wf_81_45, wv_81_45, wf_81_46, wv_81_46, wf_81_47, wv_81_47, wf_81_48, wv_81_48, wp_81_48, wf_81_49, wv_81_49, wf_81_50, wv_81_50, wp_81_50, wi_92, wg_92, ws_92, ww_92, wl_92, wn_92, am_rt_some, am_rt_void, am_rt_none, am_rt_ite, ↓reduceIte, if_true, if_false, and_self, true_and, and_true, true_or, or_true, Bool.false_eq_true, reduceCtorEq, n0, l4, q, eb, bne, er, ed, am_nin (show 7 - n < 8 by omega) (show (8 : Nat) < 2147483648 by omega), am_ncl (show 7 - n < 2147483648 by omega), not_true_eq_false, not_false_eq_true, false_and, and_false, true_and, and_true, and_self, or_self, true_or, or_true, false_or, or_false, ite_self, kEm14_m11, kEm14_m2, kEm14_m1, kEm14_0, kEm14_1, kEm14_2, kEm14_3, kEm14_4, kEm13_m11, kEm13_m2, kEm13_m1, kEm13_0, kEm13_1, kEm13_2, kEm13_3, kEm13_4, kEm12_m11, kEm12_m2, kEm12_m1, kEm12_0, kEm12_1, kEm12_2, kEm12_3, kEm12_4, kEm11_m2, kEm11_m1, kEm11_0, kEm11_1, kEm11_2, kEm11_3, kEm11_4, kEm5_m11, kEm5_m2, kEm5_m1, kEm5_0, kEm5_1, kEm5_2, kEm5_3, kEm5_4, kEm3_m11, kEm3_m2, kEm3_m1, kEm3_0, kEm3_1, kEm3_2, kEm3_3, kEm3_4, kEm2_m11, kEm2_m1, kEm2_0, kEm2_1, kEm2_2, kEm2_3, kEm2_4, kEm1_m11, kEm1_m2, kEm1_0, kEm1_1, kEm1_2, kEm1_3, kEm1_4, kE0_m11, kE0_m2, kE0_m1, kE0_1, kE0_2, kE0_3, kE0_4, kE1_m11, kE1_m2, kE1_m1, kE1_0, kE1_2, kE1_3, kE1_4, kE2_m11, kE2_m2, kE2_m1, kE2_0, kE2_1, kE2_3, kE2_4, kE3_m11, kE3_m2, kE3_m1, kE3_0, kE3_1, kE3_2, kE3_4, kE4_m11, kE4_m2, kE4_m1, kE4_0, kE4_1, kE4_2, kE4_3, kE5_m11, kE5_m2, kE5_m1, kE5_0, kE5_1, kE5_2, kE5_3, kE5_4, kE6_m11, kE6_m2, kE6_m1, kE6_0, kE6_1, kE6_2, kE6_3, kE6_4, kE7_m11, kE7_m2, kE7_m1, kE7_0, kE7_1, kE7_2, kE7_3, kE7_4, kE8_m11, kE8_m2, kE8_m1, kE8_0, kE8_1, kE8_2, kE8_3, kE8_4, kLm14_0, kLm14_1, kLm13_0, kLm13_1, kLm12_0, kLm12_1, kLm11_0, kLm11_1, kLm5_0, kLm5_1, kLm3_0, kLm3_1, kLm2_0, kLm2_1, kLm1_0, kLm1_1, kL0_0, kL0_1, kL1_0, kL1_1, kL2_0, kL2_1, kL3_0, kL3_1, kL4_0, kL4_1, kL5_0, kL5_1, kL6_0, kL6_1, kL7_0, kL7_1, kL8_0, kL8_1, em]
          exact nx
        | true =>
          rw [gm, Bool.true_and] at nx
          simp only [if_true, sX11_setMix_12, sX11_setMix_15, sX11_setMix_16, sX11_setMix_19, sX11_setMix_21, sX11_setMix_23, sX11_setMix_24, sX11_setMix_27, sX11_setMix_29, sX11_setMix_30, sX11_setMix_31, sX11_setMix_32, sX11_setMix_33, sX11_setMix_36, sX11_setMix_37, sX11_setMix_38, sX11_setMix_40, sX11_setMix_41, sX11_setMix_44, sX11_setMix_46, sX11_setMix_47, sX11_setMix_48, sX11_setMix_49, sX11_setMix_50, sX11_setMix_53, sX11_setMix_55, sX11_setMix_57, sX11_setMix_59, sX11_setMix_62, sX11_setMix_63, sX11_setMix_66, sX11_setMix_68, sX11_setMix_69, sX11_setMix_70, sX11_setMix_71, sX11_setMix_73, sX11_setMix_76, wo_81, wf_81_0, wv_81_0, wf_81_1, wv_81_1, wp_81_1, wf_81_2, wv_81_2, wp_81_2, wf_81_3, wv_81_3, wf_81_4, wv_81_4, wf_81_5, wv_81_5, wf_81_6, wv_81_6, wp_81_6, wf_81_7, wv_81_7, wp_81_7, wf_81_8, wv_81_8, wf_81_9, wv_81_9, wp_81_9, wf_81_10, wv_81_10, wf_81_11, wv_81_11, wp_81_11, wf_81_12, wv_81_12, wp_81_12, wf_81_13, wv_81_13, wf_81_14, wv_81_14, wp_81_14, wf_81_15, wv_81_15, wp_81_15, wf_81_16, wv_81_16, wp_81_16, wf_81_17, wv_81_17, wp_81_17, wf_81_18, wv_81_18, wf_81_19, wv_81_19, wf_81_20, wv_81_20, wf_81_21, wv_81_21, wf_81_22, wv_81_22, wf_81_23, wv_81_23, wf_81_24, wv_81_24, wf_81_25, wv_81_25, wf_81_26, wv_81_26, wf_81_27, wv_81_27, wf_81_28, wv_81_28, wf_81_29, wv_81_29, wf_81_30, wv_81_30, wf_81_31, wv_81_31, wf_81_32, wv_81_32, wf_81_33, wv_81_33, wp_81_33, wf_81_34, wv_81_34, wf_81_35, wv_81_35, wp_81_35, wf_81_36, wv_81_36, wf_81_37, wv_81_37, wp_81_37, wf_81_38, wv_81_38, wf_81_39, wv_81_39, wf_81_40, wv_81_40, wf_81_41, wv_81_41, wf_81_42, wv_81_42, wp_81_42, wf_81_43, wv_81_43, wp_81_43, wf_81_44, wv_81_44, wp_81_44, wf_81_45, wv_81_45, wf_81_46, wv_81_46, wf_81_47, wv_81_47, wf_81_48, wv_81_48, wp_81_48, wf_81_49, wv_81_49, wf_81_50, wv_81_50, wp_81_50, wi_92, wg_92, ws_92, ww_92, wl_92, wn_92, am_rt_some, am_rt_void, am_rt_none, am_rt_ite, ↓reduceIte, if_true, if_false, and_self, true_and, and_true, true_or, or_true, Bool.false_eq_true, reduceCtorEq, n0, l4, q, eb, bne, er, ed, am_nin (show 7 - n < 8 by omega) (show (8 : Nat) < 2147483648 by omega), am_ncl (show 7 - n < 2147483648 by omega), not_true_eq_false, not_false_eq_true, false_and, and_false, true_and, and_true, and_self, or_self, true_or, or_true, false_or, or_false, ite_self, kEm14_m11, kEm14_m2, kEm14_m1, kEm14_0, kEm14_1, kEm14_2, kEm14_3, kEm14_4, kEm13_m11, kEm13_m2, kEm13_m1, kEm13_0, kEm13_1, kEm13_2, kEm13_3, kEm13_4, kEm12_m11, kEm12_m2, kEm12_m1, kEm12_0, kEm12_1, kEm12_2, kEm12_3, kEm12_4, kEm11_m2, kEm11_m1, kEm11_0, kEm11_1, kEm11_2, kEm11_3, kEm11_4, kEm5_m11, kEm5_m2, kEm5_m1, kEm5_0, kEm5_1, kEm5_2, kEm5_3, kEm5_4, kEm3_m11, kEm3_m2, kEm3_m1, kEm3_0, kEm3_1, kEm3_2, kEm3_3, kEm3_4, kEm2_m11, kEm2_m1, kEm2_0, kEm2_1, kEm2_2, kEm2_3, kEm2_4, kEm1_m11, kEm1_m2, kEm1_0, kEm1_1, kEm1_2, kEm1_3, kEm1_4, kE0_m11, kE0_m2, kE0_m1, kE0_1, kE0_2, kE0_3, kE0_4, kE1_m11, kE1_m2, kE1_m1, kE1_0, kE1_2, kE1_3, kE1_4, kE2_m11, kE2_m2, kE2_m1, kE2_0, kE2_1, kE2_3, kE2_4, kE3_m11, kE3_m2, kE3_m1, kE3_0, kE3_1, kE3_2, kE3_4, kE4_m11, kE4_m2, kE4_m1, kE4_0, kE4_1, kE4_2, kE4_3, kE5_m11, kE5_m2, kE5_m1, kE5_0, kE5_1, kE5_2, kE5_3, kE5_4, kE6_m11, kE6_m2, kE6_m1, kE6_0, kE6_1, kE6_2, kE6_3, kE6_4, kE7_m11, kE7_m2, kE7_m1, kE7_0, kE7_1, kE7_2, kE7_3, kE7_4, kE8_m11, kE8_m2, kE8_m1, kE8_0, kE8_1, kE8_2, kE8_3, kE8_4, kLm14_0, kLm14_1, kLm13_0, kLm13_1, kLm12_0, kLm12_1, kLm11_0, kLm11_1, kLm5_0, kLm5_1, kLm3_0, kLm3_1, kLm2_0, kLm2_1, kLm1_0, kLm1_1, kL0_0, kL0_1, kL1_0, kL1_1, kL2_0, kL2_1, kL3_0, kL3_1, kL4_0, kL4_1, kL5_0, kL5_1, kL6_0, kL6_1, kL7_0, kL7_1, kL8_0, kL8_1, am_u_at, upd_at, rh1]
          by_cases c : A 82 (40 + 8 * h + (7 - n)) < nI (lfM base code (n - 4) % base)
          · rw [show decide (¬ A 82 (40 + 8 * h + (7 - n)) < nI (lfM base code (n - 4) % base)) = false from decide_eq_false (fun y => y c)] at nx
            simp only [Bool.false_eq_true, if_false] at nx
            simp only [c, if_true, sX11_setMix_83, sX11_setMix_84, sX11_setMix_86, sX11_setMix_89, em]
            exact nx
          · rw [show decide (¬ A 82 (40 + 8 * h + (7 - n)) < nI (lfM base code (n - 4) % base)) = true from decide_eq_true c] at nx
            simp only [if_true] at nx
            simp only [c, if_false, sX11_setMix_79, sX11_setMix_80, sX11_setMix_83, sX11_setMix_84, sX11_setMix_86, sX11_setMix_89, em]
            exact nx
      · have hm : mxM base code (7 - n) = 0 := if_neg q
        have hlf : lfM base code (n + 1 - 4) = lfM base code (n - 4) := by
          rw [show n + 1 - 4 = n - 4 by omega]
        rw [hlf, mo] at nx
        rw [hm] at nx mo
        have rh1 := rh (am_u A1 92 (upd (A1 92) (7 - n) 0)) e82
        have h9 := (h09 (7 - n) (by omega)).1
        rw [show decide (¬ A 82 (40 + 8 * h + (7 - n)) < 0) = true from decide_eq_true h9, Bool.and_true] at nx
        cases gm : mayD base code (fun k => A 82 (40 + 8 * h + k)) n with
        | false =>
          rw [gm] at nx
          simp only [Bool.false_eq_true, if_false] at nx ⊢
          simp only [sX11_setMix_12, sX11_setMix_15, sX11_setMix_16, sX11_setMix_19, sX11_setMix_21, sX11_setMix_23, sX11_setMix_24, sX11_setMix_27, sX11_setMix_29, sX11_setMix_30, sX11_setMix_31, sX11_setMix_32, sX11_setMix_33, sX11_setMix_36, sX11_setMix_37, sX11_setMix_38, sX11_setMix_40, sX11_setMix_41, sX11_setMix_44, sX11_setMix_46, sX11_setMix_47, sX11_setMix_48, sX11_setMix_49, sX11_setMix_50, sX11_setMix_53, sX11_setMix_55, sX11_setMix_57, sX11_setMix_59, sX11_setMix_83, sX11_setMix_84, sX11_setMix_86, sX11_setMix_89, wo_81, wf_81_0, wv_81_0, wf_81_1, wv_81_1, wp_81_1, wf_81_2, wv_81_2, wp_81_2, wf_81_3, wv_81_3, wf_81_4, wv_81_4, wf_81_5, wv_81_5, wf_81_6, wv_81_6, wp_81_6, wf_81_7, wv_81_7, wp_81_7, wf_81_8, wv_81_8, wf_81_9, wv_81_9, wp_81_9, wf_81_10, wv_81_10, wf_81_11, wv_81_11, wp_81_11, wf_81_12, wv_81_12, wp_81_12, wf_81_13, wv_81_13, wf_81_14, wv_81_14, wp_81_14, wf_81_15, wv_81_15, wp_81_15, wf_81_16, wv_81_16, wp_81_16, wf_81_17, wv_81_17, wp_81_17, wf_81_18, wv_81_18, wf_81_19, wv_81_19, wf_81_20, wv_81_20, wf_81_21, wv_81_21, wf_81_22, wv_81_22, wf_81_23, wv_81_23, wf_81_24, wv_81_24, wf_81_25, wv_81_25, wf_81_26, wv_81_26, wf_81_27, wv_81_27, wf_81_28, wv_81_28, wf_81_29, wv_81_29, wf_81_30, wv_81_30, wf_81_31, wv_81_31, wf_81_32, wv_81_32, wf_81_33, wv_81_33, wp_81_33, wf_81_34, wv_81_34, wf_81_35, wv_81_35, wp_81_35, wf_81_36, wv_81_36, wf_81_37, wv_81_37, wp_81_37, wf_81_38, wv_81_38, wf_81_39, wv_81_39, wf_81_40, wv_81_40, wf_81_41, wv_81_41, wf_81_42, wv_81_42, wp_81_42, wf_81_43, wv_81_43, wp_81_43, wf_81_44, wv_81_44, wp_81_44, wf_81_45, wv_81_45, wf_81_46, wv_81_46, wf_81_47, wv_81_47, wf_81_48, wv_81_48, wp_81_48, wf_81_49, wv_81_49, wf_81_50, wv_81_50, wp_81_50, wi_92, wg_92, ws_92, ww_92, wl_92, wn_92, am_rt_some, am_rt_void, am_rt_none, am_rt_ite, ↓reduceIte, if_true, if_false, and_self, true_and, and_true, true_or, or_true, Bool.false_eq_true, reduceCtorEq, n0, l4, q, am_nin (show 7 - n < 8 by omega) (show (8 : Nat) < 2147483648 by omega), am_ncl (show 7 - n < 2147483648 by omega), not_true_eq_false, not_false_eq_true, false_and, and_false, true_and, and_true, and_self, or_self, true_or, or_true, false_or, or_false, ite_self, kEm14_m11, kEm14_m2, kEm14_m1, kEm14_0, kEm14_1, kEm14_2, kEm14_3, kEm14_4, kEm13_m11, kEm13_m2, kEm13_m1, kEm13_0, kEm13_1, kEm13_2, kEm13_3, kEm13_4, kEm12_m11, kEm12_m2, kEm12_m1, kEm12_0, kEm12_1, kEm12_2, kEm12_3, kEm12_4, kEm11_m2, kEm11_m1, kEm11_0, kEm11_1, kEm11_2, kEm11_3, kEm11_4, kEm5_m11, kEm5_m2, kEm5_m1, kEm5_0, kEm5_1, kEm5_2, kEm5_3, kEm5_4, kEm3_m11, kEm3_m2, kEm3_m1, kEm3_0, kEm3_1, kEm3_2, kEm3_3, kEm3_4, kEm2_m11, kEm2_m1, kEm2_0, kEm2_1, kEm2_2, kEm2_3, kEm2_4, kEm1_m11, kEm1_m2, kEm1_0, kEm1_1, kEm1_2, kEm1_3, kEm1_4, kE0_m11, kE0_m2, kE0_m1, kE0_1, kE0_2, kE0_3, kE0_4, kE1_m11, kE1_m2, kE1_m1, kE1_0, kE1_2, kE1_3, kE1_4, kE2_m11, kE2_m2, kE2_m1, kE2_0, kE2_1, kE2_3, kE2_4, kE3_m11, kE3_m2, kE3_m1, kE3_0, kE3_1, kE3_2, kE3_4, kE4_m11, kE4_m2, kE4_m1, kE4_0, kE4_1, kE4_2, kE4_3, kE5_m11, kE5_m2, kE5_m1, kE5_0, kE5_1, kE5_2, kE5_3, kE5_4, kE6_m11, kE6_m2, kE6_m1, kE6_0, kE6_1, kE6_2, kE6_3, kE6_4, kE7_m11, kE7_m2, kE7_m1, kE7_0, kE7_1, kE7_2, kE7_3, kE7_4, kE8_m11, kE8_m2, kE8_m1, kE8_0, kE8_1, kE8_2, kE8_3, kE8_4, kLm14_0, kLm14_1, kLm13_0, kLm13_1, kLm12_0, kLm12_1, kLm11_0, kLm11_1, kLm5_0, kLm5_1, kLm3_0, kLm3_1, kLm2_0, kLm2_1, kLm1_0, kLm1_1, kL0_0, kL0_1, kL1_0, kL1_1, kL2_0, kL2_1, kL3_0, kL3_1, kL4_0, kL4_1, kL5_0, kL5_1, kL6_0, kL6_1, kL7_0, kL7_1, kL8_0, kL8_1, em]
          exact nx
        | true =>
          rw [gm] at nx
          simp only [if_true] at nx
          simp only [if_true, sX11_setMix_12, sX11_setMix_15, sX11_setMix_16, sX11_setMix_19, sX11_setMix_21, sX11_setMix_23, sX11_setMix_24, sX11_setMix_27, sX11_setMix_29, sX11_setMix_30, sX11_setMix_31, sX11_setMix_32, sX11_setMix_33, sX11_setMix_36, sX11_setMix_37, sX11_setMix_38, sX11_setMix_40, sX11_setMix_41, sX11_setMix_44, sX11_setMix_46, sX11_setMix_47, sX11_setMix_48, sX11_setMix_49, sX11_setMix_50, sX11_setMix_53, sX11_setMix_55, sX11_setMix_57, sX11_setMix_59, sX11_setMix_62, sX11_setMix_63, sX11_setMix_66, sX11_setMix_68, sX11_setMix_69, sX11_setMix_70, sX11_setMix_71, sX11_setMix_73, sX11_setMix_76, sX11_setMix_79, sX11_setMix_80, sX11_setMix_83, sX11_setMix_84, sX11_setMix_86, sX11_setMix_89, wo_81, wf_81_0, wv_81_0, wf_81_1, wv_81_1, wp_81_1, wf_81_2, wv_81_2, wp_81_2, wf_81_3, wv_81_3, wf_81_4, wv_81_4, wf_81_5, wv_81_5, wf_81_6, wv_81_6, wp_81_6, wf_81_7, wv_81_7, wp_81_7, wf_81_8, wv_81_8, wf_81_9, wv_81_9, wp_81_9, wf_81_10, wv_81_10, wf_81_11, wv_81_11, wp_81_11, wf_81_12, wv_81_12, wp_81_12, wf_81_13, wv_81_13, wf_81_14, wv_81_14, wp_81_14, wf_81_15, wv_81_15, wp_81_15, wf_81_16, wv_81_16, wp_81_16, wf_81_17, wv_81_17, wp_81_17, wf_81_18, wv_81_18, wf_81_19, wv_81_19, wf_81_20, wv_81_20, wf_81_21, wv_81_21, wf_81_22, wv_81_22, wf_81_23, wv_81_23, wf_81_24, wv_81_24, wf_81_25, wv_81_25, wf_81_26, wv_81_26, wf_81_27, wv_81_27, wf_81_28, wv_81_28, wf_81_29, wv_81_29, wf_81_30, wv_81_30, wf_81_31, wv_81_31, wf_81_32, wv_81_32, wf_81_33, wv_81_33, wp_81_33, wf_81_34, wv_81_34, wf_81_35, wv_81_35, wp_81_35, wf_81_36, wv_81_36, wf_81_37, wv_81_37, wp_81_37, wf_81_38, wv_81_38, wf_81_39, wv_81_39, wf_81_40, wv_81_40, wf_81_41, wv_81_41, wf_81_42, wv_81_42, wp_81_42, wf_81_43, wv_81_43, wp_81_43, wf_81_44, wv_81_44, wp_81_44, wf_81_45, wv_81_45, wf_81_46, wv_81_46, wf_81_47, wv_81_47, wf_81_48, wv_81_48, wp_81_48, wf_81_49, wv_81_49, wf_81_50, wv_81_50, wp_81_50, wi_92, wg_92, ws_92, ww_92, wl_92, wn_92, am_rt_some, am_rt_void, am_rt_none, am_rt_ite, ↓reduceIte, if_true, if_false, and_self, true_and, and_true, true_or, or_true, Bool.false_eq_true, reduceCtorEq, n0, l4, q, am_nin (show 7 - n < 8 by omega) (show (8 : Nat) < 2147483648 by omega), am_ncl (show 7 - n < 2147483648 by omega), not_true_eq_false, not_false_eq_true, false_and, and_false, true_and, and_true, and_self, or_self, true_or, or_true, false_or, or_false, ite_self, kEm14_m11, kEm14_m2, kEm14_m1, kEm14_0, kEm14_1, kEm14_2, kEm14_3, kEm14_4, kEm13_m11, kEm13_m2, kEm13_m1, kEm13_0, kEm13_1, kEm13_2, kEm13_3, kEm13_4, kEm12_m11, kEm12_m2, kEm12_m1, kEm12_0, kEm12_1, kEm12_2, kEm12_3, kEm12_4, kEm11_m2, kEm11_m1, kEm11_0, kEm11_1, kEm11_2, kEm11_3, kEm11_4, kEm5_m11, kEm5_m2, kEm5_m1, kEm5_0, kEm5_1, kEm5_2, kEm5_3, kEm5_4, kEm3_m11, kEm3_m2, kEm3_m1, kEm3_0, kEm3_1, kEm3_2, kEm3_3, kEm3_4, kEm2_m11, kEm2_m1, kEm2_0, kEm2_1, kEm2_2, kEm2_3, kEm2_4, kEm1_m11, kEm1_m2, kEm1_0, kEm1_1, kEm1_2, kEm1_3, kEm1_4, kE0_m11, kE0_m2, kE0_m1, kE0_1, kE0_2, kE0_3, kE0_4, kE1_m11, kE1_m2, kE1_m1, kE1_0, kE1_2, kE1_3, kE1_4, kE2_m11, kE2_m2, kE2_m1, kE2_0, kE2_1, kE2_3, kE2_4, kE3_m11, kE3_m2, kE3_m1, kE3_0, kE3_1, kE3_2, kE3_4, kE4_m11, kE4_m2, kE4_m1, kE4_0, kE4_1, kE4_2, kE4_3, kE5_m11, kE5_m2, kE5_m1, kE5_0, kE5_1, kE5_2, kE5_3, kE5_4, kE6_m11, kE6_m2, kE6_m1, kE6_0, kE6_1, kE6_2, kE6_3, kE6_4, kE7_m11, kE7_m2, kE7_m1, kE7_0, kE7_1, kE7_2, kE7_3, kE7_4, kE8_m11, kE8_m2, kE8_m1, kE8_0, kE8_1, kE8_2, kE8_3, kE8_4, kLm14_0, kLm14_1, kLm13_0, kLm13_1, kLm12_0, kLm12_1, kLm11_0, kLm11_1, kLm5_0, kLm5_1, kLm3_0, kLm3_1, kLm2_0, kLm2_1, kLm1_0, kLm1_1, kL0_0, kL0_1, kL1_0, kL1_1, kL2_0, kL2_1, kL3_0, kL3_1, kL4_0, kL4_1, kL5_0, kL5_1, kL6_0, kL6_1, kL7_0, kL7_1, kL8_0, kL8_1, am_u_at, upd_at, rh1, h9, em]
          exact nx
  simp only [eX11_setMix, sX11_setMix_0, sX11_setMix_1, sX11_setMix_3, sX11_setMix_4, sX11_setMix_6, sX11_setMix_8]
  exact key 8 0 A rfl Fr.rf (fun j h1 h2 => absurd h2 (by omega))
end MX

/-! fires: both -/
section FI
variable {X : Nat × (Nat → Int32)} {d : Nat} {I A : TI} {J : TJ} {w : am_W}
abbrev FS : Type := Option (Nat × (Nat → Nat))
def unF (g : Nat → Nat) (i v : Nat) : Nat → Nat := fun j => if j = i then v else g j
theorem unF_at (g : Nat → Nat) (i v : Nat) : unF g i v i = v := by unfold unF; rw [if_pos rfl]
theorem unF_ne {g : Nat → Nat} {i v j : Nat} (h : j ≠ i) : unF g i v j = g j := by unfold unF; rw [if_neg h]
def geF (lo : Nat) : FS → Bool
  | none => false
  | some (v, _) => decide (v ≤ lo)
def fiF (step : Nat → FS → FS) : Nat → FS → FS
  | 0, s => s
  | n + 1, s => step n (fiF step n s)
def layM (nd : Nat → Nat) (fi : Nat) : Nat → Nat → Nat → (Nat → Nat) → (Nat → Nat) → FS → FS
  | 0, _, lo, _, wy, s => if geF lo s = true then s else some (lo, wy)
  | m + 1, t, lo, bu, wy, s => if geF lo s = true then s else fiF (fun f s => layM nd fi m (t + 1) (max lo (bu f + nd t)) (unF bu f (bu f + nd t)) (unF wy t f) s) fi s
def rpF (le : Int32) (lw : Nat → Int32) (mx : Int32) (n : Nat) : FS → Prop
  | none => le = mx
  | some (v, p) => v ≤ 480 ∧ le = nI v ∧ ∀ j, j < n → lw j = nI (p j)
theorem rpF_lt {le mx : Int32} {lw : Nat → Int32} {n lo : Nat} {s : FS} (h : rpF le lw mx n s) (hl : lo ≤ 480) (hm : nI lo < mx) : (nI lo < le) = ¬ (geF lo s = true) := by
  cases s with
  | none =>
    have h : le = mx := h
    rw [h]
    exact propext ⟨fun _ => Bool.false_ne_true, fun _ => hm⟩
  | some q =>
    obtain ⟨v, p⟩ := q
    obtain ⟨h1, h2, _⟩ := h
    rw [h2, am_nlt (show lo < 2147483648 by omega) (show v < 2147483648 by omega)]
    show (lo < v) = ¬ (decide (v ≤ lo) = true)
    rw [decide_eq_true_eq]
    exact propext (by omega)
theorem mxI {a b : Nat} (ha : a < 2147483648) (hb : b < 2147483648) : (if nI a < nI b then nI b else nI a) = nI (max a b) := by
  by_cases q : a < b
  · rw [if_pos ((nI_ltI ha hb).mpr q), Nat.max_eq_right (by omega)]
  · rw [if_neg (mt (nI_ltI ha hb).mp q), Nat.max_eq_left (by omega)]
theorem c_layOn {nd : Nat → Nat} {fi P : Nat} (hP : P ≤ 8) (hfi : fi ≤ 3) (hnd : ∀ j, j < P → nd j ≤ 60) : ∀ (m t lo : Nat) (bu wy : Nat → Nat) (s : FS) (I A : TI), t + m = P → I 41 1 = nI P → (∀ j, j < P → A 42 j = nI (nd j)) → (∀ f, f < 3 → A 43 f = nI (bu f)) → (∀ j, j < t → A 44 j = nI (wy j)) → rpF (I 41 5) (A 45) 1000 P s → lo ≤ 60 * t → (∀ f, f < 3 → bu f ≤ 60 * t) → ∃ I' A', am_CL X (d + m + 1) mX1_layOn [.ref 41, .int (nI t), .int (nI fi), .int (nI lo)] (am_wd I A J) = some (none, am_wd I' A' J) ∧ Fr [(41, 5)] [43, 44, 45] [] I A J I' A' J ∧ (∀ f, f < 3 → A' 43 f = A 43 f) ∧ (∀ j, j < t → A' 44 j = A 44 j) ∧ rpF (I' 41 5) (A' 45) 1000 P (layM nd fi m t lo bu wy s) := by
  intro m
  induction m with
  | zero =>
    intro t lo bu wy s I A ht e1 h42 h43 h44 hs hlo hbu
    have tP : t = P := by omega
    subst tP
    have lt := rpF_lt hs (show lo ≤ 480 by omega) (show nI lo < 1000 from nI_lt (b := 1000) (by omega) (by decide))
    have h0 : layM nd fi 0 t lo bu wy s = if geF lo s = true then s else some (lo, wy) := rfl
    rw [h0]
    by_cases g : geF lo s = true
    · rw [if_pos g]
      refine ⟨I, A, ?_, Fr.rf, fun _ _ => rfl, fun _ _ => rfl, hs⟩
      simp only [eX1_layOn, sX1_layOn_0, sX1_layOn_1, sX1_layOn_2, sX1_layOn_5, sX1_layOn_8, wo_41, wf_41_0, wv_41_0, wf_41_1, wv_41_1, wp_41_1, wf_41_2, wv_41_2, wf_41_3, wv_41_3, wf_41_4, wv_41_4, wf_41_5, wv_41_5, wp_41_5, am_rt_some, am_rt_void, am_rt_none, am_rt_ite, ↓reduceIte, if_true, if_false, and_self, true_and, and_true, true_or, or_true, Bool.false_eq_true, reduceCtorEq, lt, g, not_true_eq_false, not_false_eq_true, false_and, and_false, true_and, and_true, and_self, or_self, true_or, or_true, false_or, or_false, ite_self, kEm14_m11, kEm14_m2, kEm14_m1, kEm14_0, kEm14_1, kEm14_2, kEm14_3, kEm14_4, kEm13_m11, kEm13_m2, kEm13_m1, kEm13_0, kEm13_1, kEm13_2, kEm13_3, kEm13_4, kEm12_m11, kEm12_m2, kEm12_m1, kEm12_0, kEm12_1, kEm12_2, kEm12_3, kEm12_4, kEm11_m2, kEm11_m1, kEm11_0, kEm11_1, kEm11_2, kEm11_3, kEm11_4, kEm5_m11, kEm5_m2, kEm5_m1, kEm5_0, kEm5_1, kEm5_2, kEm5_3, kEm5_4, kEm3_m11, kEm3_m2, kEm3_m1, kEm3_0, kEm3_1, kEm3_2, kEm3_3, kEm3_4, kEm2_m11, kEm2_m1, kEm2_0, kEm2_1, kEm2_2, kEm2_3, kEm2_4, kEm1_m11, kEm1_m2, kEm1_0, kEm1_1, kEm1_2, kEm1_3, kEm1_4, kE0_m11, kE0_m2, kE0_m1, kE0_1, kE0_2, kE0_3, kE0_4, kE1_m11, kE1_m2, kE1_m1, kE1_0, kE1_2, kE1_3, kE1_4, kE2_m11, kE2_m2, kE2_m1, kE2_0, kE2_1, kE2_3, kE2_4, kE3_m11, kE3_m2, kE3_m1, kE3_0, kE3_1, kE3_2, kE3_4, kE4_m11, kE4_m2, kE4_m1, kE4_0, kE4_1, kE4_2, kE4_3, kE5_m11, kE5_m2, kE5_m1, kE5_0, kE5_1, kE5_2, kE5_3, kE5_4, kE6_m11, kE6_m2, kE6_m1, kE6_0, kE6_1, kE6_2, kE6_3, kE6_4, kE7_m11, kE7_m2, kE7_m1, kE7_0, kE7_1, kE7_2, kE7_3, kE7_4, kE8_m11, kE8_m2, kE8_m1, kE8_0, kE8_1, kE8_2, kE8_3, kE8_4, kLm14_0, kLm14_1, kLm13_0, kLm13_1, kLm12_0, kLm12_1, kLm11_0, kLm11_1, kLm5_0, kLm5_1, kLm3_0, kLm3_1, kLm2_0, kLm2_1, kLm1_0, kLm1_1, kL0_0, kL0_1, kL1_0, kL1_1, kL2_0, kL2_1, kL3_0, kL3_1, kL4_0, kL4_1, kL5_0, kL5_1, kL6_0, kL6_1, kL7_0, kL7_1, kL8_0, kL8_1]
    · rw [if_neg g]
      refine ⟨am_u2 I 41 5 (nI lo), am_u A 45 (va_cpy (A 44) (A 45) 0 0 8), ?_, (Fr.rf.ui (by decide)).ua (by decide), fun _ _ => rfl, fun _ _ => rfl, ?_⟩
      · simp only [eX1_layOn, sX1_layOn_0, sX1_layOn_1, sX1_layOn_2, sX1_layOn_5, sX1_layOn_8, sX1_layOn_9, sX1_layOn_10, sX1_layOn_11, sX1_layOn_14, sX1_layOn_17, sX1_layOn_18, sX1_layOn_19, sX1_layOn_22, sX1_layOn_23, sX1_layOn_26, sX1_layOn_27, sX1_layOn_28, sX1_layOn_31, sX1_layOn_32, wo_41, wf_41_0, wv_41_0, wf_41_1, wv_41_1, wp_41_1, wf_41_2, wv_41_2, wf_41_3, wv_41_3, wf_41_4, wv_41_4, wf_41_5, wv_41_5, wp_41_5, am_rt_some, am_rt_void, am_rt_none, am_rt_ite, ↓reduceIte, if_true, if_false, and_self, true_and, and_true, true_or, or_true, Bool.false_eq_true, reduceCtorEq, lt, g, not_true_eq_false, not_false_eq_true, false_and, and_false, true_and, and_true, and_self, or_self, true_or, or_true, false_or, or_false, ite_self, kEm14_m11, kEm14_m2, kEm14_m1, kEm14_0, kEm14_1, kEm14_2, kEm14_3, kEm14_4, kEm13_m11, kEm13_m2, kEm13_m1, kEm13_0, kEm13_1, kEm13_2, kEm13_3, kEm13_4, kEm12_m11, kEm12_m2, kEm12_m1, kEm12_0, kEm12_1, kEm12_2, kEm12_3, kEm12_4, kEm11_m2, kEm11_m1, kEm11_0, kEm11_1, kEm11_2, kEm11_3, kEm11_4, kEm5_m11, kEm5_m2, kEm5_m1, kEm5_0, kEm5_1, kEm5_2, kEm5_3, kEm5_4, kEm3_m11, kEm3_m2, kEm3_m1, kEm3_0, kEm3_1, kEm3_2, kEm3_3, kEm3_4, kEm2_m11, kEm2_m1, kEm2_0, kEm2_1, kEm2_2, kEm2_3, kEm2_4, kEm1_m11, kEm1_m2, kEm1_0, kEm1_1, kEm1_2, kEm1_3, kEm1_4, kE0_m11, kE0_m2, kE0_m1, kE0_1, kE0_2, kE0_3, kE0_4, kE1_m11, kE1_m2, kE1_m1, kE1_0, kE1_2, kE1_3, kE1_4, kE2_m11, kE2_m2, kE2_m1, kE2_0, kE2_1, kE2_3, kE2_4, kE3_m11, kE3_m2, kE3_m1, kE3_0, kE3_1, kE3_2, kE3_4, kE4_m11, kE4_m2, kE4_m1, kE4_0, kE4_1, kE4_2, kE4_3, kE5_m11, kE5_m2, kE5_m1, kE5_0, kE5_1, kE5_2, kE5_3, kE5_4, kE6_m11, kE6_m2, kE6_m1, kE6_0, kE6_1, kE6_2, kE6_3, kE6_4, kE7_m11, kE7_m2, kE7_m1, kE7_0, kE7_1, kE7_2, kE7_3, kE7_4, kE8_m11, kE8_m2, kE8_m1, kE8_0, kE8_1, kE8_2, kE8_3, kE8_4, kLm14_0, kLm14_1, kLm13_0, kLm13_1, kLm12_0, kLm12_1, kLm11_0, kLm11_1, kLm5_0, kLm5_1, kLm3_0, kLm3_1, kLm2_0, kLm2_1, kLm1_0, kLm1_1, kL0_0, kL0_1, kL1_0, kL1_1, kL2_0, kL2_1, kL3_0, kL3_1, kL4_0, kL4_1, kL5_0, kL5_1, kL6_0, kL6_1, kL7_0, kL7_1, kL8_0, kL8_1, e1, am_nlt (show t < 2147483648 by omega) (show t < 2147483648 by omega), Nat.lt_irrefl, show am_u2 I 41 5 (nI lo) 41 1 = I 41 1 from rfl]
        rw [sX1_layOn_34 (cl := .inl (0, 8, .inl (va_cpy (A 44) (A 45) 0 0 8))) (by rw [wr_44, wr_45]; exact am_cpI 0 0 8 (by decide) (by decide) (by decide) (by decide))]
        simp only [sX1_layOn_37, wi_45, wg_45, ws_45, ww_45, wl_45, wn_45, am_rt_some, am_rt_void, am_rt_none, am_rt_ite, ↓reduceIte, if_true, if_false, and_self, true_and, and_true, true_or, or_true, Bool.false_eq_true, reduceCtorEq]
      · refine ⟨by omega, by rw [am_u2_at], fun j hj => ?_⟩
        rw [am_u_at, cp_at (by omega)]
        exact h44 j hj
  | succ m ih =>
    intro t lo bu wy s I A ht e1 h42 h43 h44 hs hlo hbu
    have lt := rpF_lt hs (show lo ≤ 480 by omega) (show nI lo < 1000 from nI_lt (b := 1000) (by omega) (by decide))
    have h0 : layM nd fi (m + 1) t lo bu wy s = if geF lo s = true then s else fiF (fun f s => layM nd fi m (t + 1) (max lo (bu f + nd t)) (unF bu f (bu f + nd t)) (unF wy t f) s) fi s := rfl
    rw [h0]
    by_cases g : geF lo s = true
    · rw [if_pos g]
      refine ⟨I, A, ?_, Fr.rf, fun _ _ => rfl, fun _ _ => rfl, hs⟩
      simp only [eX1_layOn, sX1_layOn_0, sX1_layOn_1, sX1_layOn_2, sX1_layOn_5, sX1_layOn_8, wo_41, wf_41_0, wv_41_0, wf_41_1, wv_41_1, wp_41_1, wf_41_2, wv_41_2, wf_41_3, wv_41_3, wf_41_4, wv_41_4, wf_41_5, wv_41_5, wp_41_5, am_rt_some, am_rt_void, am_rt_none, am_rt_ite, ↓reduceIte, if_true, if_false, and_self, true_and, and_true, true_or, or_true, Bool.false_eq_true, reduceCtorEq, lt, g, not_true_eq_false, not_false_eq_true, false_and, and_false, true_and, and_true, and_self, or_self, true_or, or_true, false_or, or_false, ite_self, kEm14_m11, kEm14_m2, kEm14_m1, kEm14_0, kEm14_1, kEm14_2, kEm14_3, kEm14_4, kEm13_m11, kEm13_m2, kEm13_m1, kEm13_0, kEm13_1, kEm13_2, kEm13_3, kEm13_4, kEm12_m11, kEm12_m2, kEm12_m1, kEm12_0, kEm12_1, kEm12_2, kEm12_3, kEm12_4, kEm11_m2, kEm11_m1, kEm11_0, kEm11_1, kEm11_2, kEm11_3, kEm11_4, kEm5_m11, kEm5_m2, kEm5_m1, kEm5_0, kEm5_1, kEm5_2, kEm5_3, kEm5_4, kEm3_m11, kEm3_m2, kEm3_m1, kEm3_0, kEm3_1, kEm3_2, kEm3_3, kEm3_4, kEm2_m11, kEm2_m1, kEm2_0, kEm2_1, kEm2_2, kEm2_3, kEm2_4, kEm1_m11, kEm1_m2, kEm1_0, kEm1_1, kEm1_2, kEm1_3, kEm1_4, kE0_m11, kE0_m2, kE0_m1, kE0_1, kE0_2, kE0_3, kE0_4, kE1_m11, kE1_m2, kE1_m1, kE1_0, kE1_2, kE1_3, kE1_4, kE2_m11, kE2_m2, kE2_m1, kE2_0, kE2_1, kE2_3, kE2_4, kE3_m11, kE3_m2, kE3_m1, kE3_0, kE3_1, kE3_2, kE3_4, kE4_m11, kE4_m2, kE4_m1, kE4_0, kE4_1, kE4_2, kE4_3, kE5_m11, kE5_m2, kE5_m1, kE5_0, kE5_1, kE5_2, kE5_3, kE5_4, kE6_m11, kE6_m2, kE6_m1, kE6_0, kE6_1, kE6_2, kE6_3, kE6_4, kE7_m11, kE7_m2, kE7_m1, kE7_0, kE7_1, kE7_2, kE7_3, kE7_4, kE8_m11, kE8_m2, kE8_m1, kE8_0, kE8_1, kE8_2, kE8_3, kE8_4, kLm14_0, kLm14_1, kLm13_0, kLm13_1, kLm12_0, kLm12_1, kLm11_0, kLm11_1, kLm5_0, kLm5_1, kLm3_0, kLm3_1, kLm2_0, kLm2_1, kLm1_0, kLm1_1, kL0_0, kL0_1, kL1_0, kL1_1, kL2_0, kL2_1, kL3_0, kL3_1, kL4_0, kL4_1, kL5_0, kL5_1, kL6_0, kL6_1, kL7_0, kL7_1, kL8_0, kL8_1]
    rw [if_neg g]
    generalize hst : (fun f s => layM nd fi m (t + 1) (max lo (bu f + nd t)) (unF bu f (bu f + nd t)) (unF wy t f) s) = step
    have hndt := hnd t (by omega)
    have lp : ∀ (q u : Nat) (I2 A2 : TI), u + q = fi → Fr [(41, 5)] [43, 44, 45] [] I A J I2 A2 J → (∀ f, f < 3 → A2 43 f = nI (bu f)) → (∀ j, j < t → A2 44 j = nI (wy j)) → rpF (I2 41 5) (A2 45) 1000 P (fiF step u s) → ∃ I' A', am_EV X (d + m + 1) mX1_layOn 41 [.ref 41, .int (nI t), .int (nI fi), .int (nI lo), .int (nI u)] [] (am_wd I2 A2 J) = some (none, am_wd I' A' J) ∧ Fr [(41, 5)] [43, 44, 45] [] I A J I' A' J ∧ (∀ f, f < 3 → A' 43 f = nI (bu f)) ∧ (∀ j, j < t → A' 44 j = nI (wy j)) ∧ rpF (I' 41 5) (A' 45) 1000 P (fiF step fi s) := by
      intro q
      induction q with
      | zero =>
        intro u I2 A2 hu f a43 a44 hr
        have uf : u = fi := by omega
        subst uf
        refine ⟨I2, A2, ?_, f, a43, a44, hr⟩
        simp only [sX1_layOn_41, sX1_layOn_43, sX1_layOn_44, sX1_layOn_118, am_rt_some, am_rt_void, am_rt_none, am_rt_ite, ↓reduceIte, if_true, if_false, and_self, true_and, and_true, true_or, or_true, Bool.false_eq_true, reduceCtorEq, am_nlt (show u < 2147483648 by omega) (show u < 2147483648 by omega), Nat.lt_irrefl]
      | succ q ihq =>
        intro u I2 A2 hu f a43 a44 hr
        have hu3 : u < 3 := by omega
        have b1 := hbu u hu3
        have e42 : A2 42 = A 42 := f.a 42 (by decide)
        have n42 : A2 42 t = nI (nd t) := by rw [e42]; exact h42 t (by omega)
        have hadd : A2 43 u + nI (nd t) = nI (bu u + nd t) := by rw [a43 u hu3]; exact i_add _ _
        have f1 : Fr [(41, 5)] [43, 44, 45] [] I A J I2 (am_u (am_u A2 44 (upd (A2 44) t (nI u))) 43 (upd (A2 43) u (nI (bu u + nd t)))) J := (f.ua (by decide)).ua (by decide)
        obtain ⟨I3, A3, k1, k2, k3, k4, k5⟩ := ih (t + 1) (max lo (bu u + nd t)) (unF bu u (bu u + nd t)) (unF wy t u) (fiF step u s) I2 (am_u (am_u A2 44 (upd (A2 44) t (nI u))) 43 (upd (A2 43) u (nI (bu u + nd t)))) (by omega) ((f1.i 41 1 (by decide)).trans e1) (fun j hj => by
          rw [f1.a 42 (by decide)]; exact h42 j hj) (fun o ho => by
          rw [am_u_at]
          by_cases y : o = u
          · subst y; rw [upd_at, unF_at]
          · rw [upd_ne y, unF_ne y]; exact a43 o ho) (fun j hj => by
          rw [am_u_ne (show (44 : Nat) ≠ 43 by decide), am_u_at]
          by_cases y : j = t
          · subst y; rw [upd_at, unF_at]
          · rw [upd_ne y, unF_ne y]; exact a44 j (by omega)) hr (by
          have := Nat.max_le (a := lo) (b := bu u + nd t) (c := 60 * (t + 1))
          exact this.mpr ⟨by omega, by omega⟩) (fun o ho => by
          by_cases y : o = u
          · subst y; rw [unF_at]; omega
          · rw [unF_ne y]; have := hbu o ho; omega)
        have F3 : Fr [(41, 5)] [43, 44, 45] [] I A J I3 A3 J := f1.tr k2
        have e43 : A3 43 u = nI (bu u + nd t) := by rw [k3 u hu3, am_u_at, upd_at]
        have hsub : A3 43 u - nI (nd t) = nI (bu u) := by rw [e43, i_sub (by omega)]; congr 1; omega
        have n42' : A3 42 t = nI (nd t) := by rw [F3.a 42 (by decide)]; exact h42 t (by omega)
        obtain ⟨I4, A4, x1, x2, x3, x4, x5⟩ := ihq (u + 1) I3 (am_u A3 43 (upd (A3 43) u (nI (bu u)))) (by omega) (F3.ua (by decide)) (fun o ho => by
          rw [am_u_at]
          by_cases y : o = u
          · subst y; rw [upd_at]
          · rw [upd_ne y, k3 o ho, am_u_at, upd_ne y]; exact a43 o ho) (fun j hj => by
          rw [am_u_ne (show (44 : Nat) ≠ 43 by decide), k4 j (by omega), am_u_ne (show (44 : Nat) ≠ 43 by decide), am_u_at, upd_ne (by omega)]; exact a44 j hj) (by
          rw [am_u_ne (show (45 : Nat) ≠ 43 by decide)]
          rw [← hst] at k5 ⊢
          exact k5)
        refine ⟨I4, A4, ?_, x2, x3, x4, x5⟩
        rw [← x1, sX1_layOn_41]
        have u3 : (nI u < 3) = True := by rw [am_nlit (x := 3) 3 rfl (show u < 2147483648 by omega) (by decide)]; exact eq_true hu3
        have k1' : am_CL X (d + m + 1) mX1_layOn [.ref 41, .int (nI (t + 1)), .int (nI fi), .int (nI (max lo (bu u + nd t)))] (am_wd I2 (am_u (am_u A2 44 (upd (A2 44) t (nI u))) 43 (upd (A2 43) u (nI (bu u + nd t)))) J) = some (none, am_wd I3 A3 J) := k1
        simp only [sX1_layOn_43, sX1_layOn_44, sX1_layOn_47, sX1_layOn_49, sX1_layOn_50, sX1_layOn_53, sX1_layOn_54, sX1_layOn_57, sX1_layOn_58, sX1_layOn_60, sX1_layOn_61, sX1_layOn_62, sX1_layOn_65, sX1_layOn_67, sX1_layOn_68, sX1_layOn_69, sX1_layOn_70, sX1_layOn_73, sX1_layOn_74, sX1_layOn_75, sX1_layOn_76, sX1_layOn_77, sX1_layOn_78, sX1_layOn_79, sX1_layOn_80, sX1_layOn_81, sX1_layOn_82, sX1_layOn_83, sX1_layOn_84, sX1_layOn_87, sX1_layOn_89, sX1_layOn_90, wo_41, wf_41_0, wv_41_0, wf_41_1, wv_41_1, wp_41_1, wf_41_2, wv_41_2, wf_41_3, wv_41_3, wf_41_4, wv_41_4, wf_41_5, wv_41_5, wp_41_5, wi_42, wg_42, ws_42, ww_42, wl_42, wn_42, wi_43, wg_43, ws_43, ww_43, wl_43, wn_43, wi_44, wg_44, ws_44, ww_44, wl_44, wn_44, am_rt_some, am_rt_void, am_rt_none, am_rt_ite, ↓reduceIte, if_true, if_false, and_self, true_and, and_true, true_or, or_true, Bool.false_eq_true, reduceCtorEq, u3, am_nlt (show u < 2147483648 by omega) (show fi < 2147483648 by omega), show u < fi by omega, am_nin (show t < 8 by omega) (show (8 : Nat) < 2147483648 by omega), am_ncl (show t < 2147483648 by omega), am_nin (show u < 3 by omega) (show (3 : Nat) < 2147483648 by omega), am_ncl (show u < 2147483648 by omega), am_u_ne (show (43 : Nat) ≠ 44 by decide), am_u_ne (show (42 : Nat) ≠ 44 by decide), am_u_ne (show (42 : Nat) ≠ 43 by decide), am_u_at, n42, hadd, am_n1, upd_at, mxI (show lo < 2147483648 by omega) (show bu u + nd t < 2147483648 by omega)]
        simp only [sX1_layOn_93, sX1_layOn_96, sX1_layOn_97, sX1_layOn_100, sX1_layOn_102, sX1_layOn_103, sX1_layOn_104, sX1_layOn_105, sX1_layOn_108, sX1_layOn_109, sX1_layOn_110, sX1_layOn_111, sX1_layOn_112, sX1_layOn_115, wo_41, wf_41_0, wv_41_0, wf_41_1, wv_41_1, wp_41_1, wf_41_2, wv_41_2, wf_41_3, wv_41_3, wf_41_4, wv_41_4, wf_41_5, wv_41_5, wp_41_5, wi_42, wg_42, ws_42, ww_42, wl_42, wn_42, wi_43, wg_43, ws_43, ww_43, wl_43, wn_43, am_rt_some, am_rt_void, am_rt_none, am_rt_ite, ↓reduceIte, if_true, if_false, and_self, true_and, and_true, true_or, or_true, Bool.false_eq_true, reduceCtorEq, k1', am_nin (show t < 8 by omega) (show (8 : Nat) < 2147483648 by omega), am_ncl (show t < 2147483648 by omega), am_nin (show u < 3 by omega) (show (3 : Nat) < 2147483648 by omega), am_ncl (show u < 2147483648 by omega), n42', hsub, am_n1]
    obtain ⟨I', A', x1, x2, x3, x4, x5⟩ := lp fi 0 I A (by omega) Fr.rf h43 h44 hs
    refine ⟨I', A', ?_, x2, fun f hf => (x3 f hf).trans (h43 f hf).symm, fun j hj => (x4 j hj).trans (h44 j hj).symm, x5⟩
    simp only [eX1_layOn, sX1_layOn_0, sX1_layOn_1, sX1_layOn_2, sX1_layOn_5, sX1_layOn_8, sX1_layOn_9, sX1_layOn_10, sX1_layOn_11, sX1_layOn_14, sX1_layOn_17, sX1_layOn_18, sX1_layOn_19, sX1_layOn_22, sX1_layOn_23, sX1_layOn_26, sX1_layOn_27, sX1_layOn_28, sX1_layOn_31, sX1_layOn_32, sX1_layOn_34, sX1_layOn_37, sX1_layOn_38, sX1_layOn_39, wo_41, wf_41_0, wv_41_0, wf_41_1, wv_41_1, wp_41_1, wf_41_2, wv_41_2, wf_41_3, wv_41_3, wf_41_4, wv_41_4, wf_41_5, wv_41_5, wp_41_5, am_rt_some, am_rt_void, am_rt_none, am_rt_ite, ↓reduceIte, if_true, if_false, and_self, true_and, and_true, true_or, or_true, Bool.false_eq_true, reduceCtorEq, lt, g, not_true_eq_false, not_false_eq_true, false_and, and_false, true_and, and_true, and_self, or_self, true_or, or_true, false_or, or_false, ite_self, kEm14_m11, kEm14_m2, kEm14_m1, kEm14_0, kEm14_1, kEm14_2, kEm14_3, kEm14_4, kEm13_m11, kEm13_m2, kEm13_m1, kEm13_0, kEm13_1, kEm13_2, kEm13_3, kEm13_4, kEm12_m11, kEm12_m2, kEm12_m1, kEm12_0, kEm12_1, kEm12_2, kEm12_3, kEm12_4, kEm11_m2, kEm11_m1, kEm11_0, kEm11_1, kEm11_2, kEm11_3, kEm11_4, kEm5_m11, kEm5_m2, kEm5_m1, kEm5_0, kEm5_1, kEm5_2, kEm5_3, kEm5_4, kEm3_m11, kEm3_m2, kEm3_m1, kEm3_0, kEm3_1, kEm3_2, kEm3_3, kEm3_4, kEm2_m11, kEm2_m1, kEm2_0, kEm2_1, kEm2_2, kEm2_3, kEm2_4, kEm1_m11, kEm1_m2, kEm1_0, kEm1_1, kEm1_2, kEm1_3, kEm1_4, kE0_m11, kE0_m2, kE0_m1, kE0_1, kE0_2, kE0_3, kE0_4, kE1_m11, kE1_m2, kE1_m1, kE1_0, kE1_2, kE1_3, kE1_4, kE2_m11, kE2_m2, kE2_m1, kE2_0, kE2_1, kE2_3, kE2_4, kE3_m11, kE3_m2, kE3_m1, kE3_0, kE3_1, kE3_2, kE3_4, kE4_m11, kE4_m2, kE4_m1, kE4_0, kE4_1, kE4_2, kE4_3, kE5_m11, kE5_m2, kE5_m1, kE5_0, kE5_1, kE5_2, kE5_3, kE5_4, kE6_m11, kE6_m2, kE6_m1, kE6_0, kE6_1, kE6_2, kE6_3, kE6_4, kE7_m11, kE7_m2, kE7_m1, kE7_0, kE7_1, kE7_2, kE7_3, kE7_4, kE8_m11, kE8_m2, kE8_m1, kE8_0, kE8_1, kE8_2, kE8_3, kE8_4, kLm14_0, kLm14_1, kLm13_0, kLm13_1, kLm12_0, kLm12_1, kLm11_0, kLm11_1, kLm5_0, kLm5_1, kLm3_0, kLm3_1, kLm2_0, kLm2_1, kLm1_0, kLm1_1, kL0_0, kL0_1, kL1_0, kL1_1, kL2_0, kL2_1, kL3_0, kL3_1, kL4_0, kL4_1, kL5_0, kL5_1, kL6_0, kL6_1, kL7_0, kL7_1, kL8_0, kL8_1, e1, am_nlt (show t < 2147483648 by omega) (show P < 2147483648 by omega), show t < P by omega]
    exact x1
theorem r_deal {nd : Nat → Nat} {fi P k ln : Nat} {b : Nat → Int32} (hP : P ≤ 8) (hfi : fi ≤ 3) (hnd : ∀ j, j < P → nd j ≤ 60 ∧ j < ln ∧ b j = nI (nd j)) : ∀ (m t lo : Nat) (bu wy : Nat → Nat) (s : FS) (I A : TI), t + m = P → ShB I A J k ln b → (∀ f, f < 3 → A 101 f = nI (bu f)) → (∀ j, j < t → A 102 j = nI (wy j)) → rpF (I 81 33) (A 103) 2147483647 P s → lo ≤ 60 * t → (∀ f, f < 3 → bu f ≤ 60 * t) → ∃ I' A', am_CL X (d + m + 1) mX11_deal [.ref 81, .int (nI k), .int (nI t), .int (nI P), .int (nI fi), .int (nI lo)] (am_wd I A J) = some (none, am_wd I' A' J) ∧ Fr [(81, 33)] [101, 102, 103] [] I A J I' A' J ∧ (∀ f, f < 3 → A' 101 f = A 101 f) ∧ (∀ j, j < t → A' 102 j = A 102 j) ∧ rpF (I' 81 33) (A' 103) 2147483647 P (layM nd fi m t lo bu wy s) := by
  intro m
  induction m with
  | zero =>
    intro t lo bu wy s I A ht hB h43 h44 hs hlo hbu
    have tP : t = P := by omega
    subst tP
    have lt := rpF_lt hs (show lo ≤ 480 by omega) (show nI lo < 2147483647 from nI_lt (b := 2147483647) (by omega) (by decide))
    have h0 : layM nd fi 0 t lo bu wy s = if geF lo s = true then s else some (lo, wy) := rfl
    rw [h0]
    by_cases g : geF lo s = true
    · rw [if_pos g]
      refine ⟨I, A, ?_, Fr.rf, fun _ _ => rfl, fun _ _ => rfl, hs⟩
      simp only [eX11_deal, sX11_deal_0, sX11_deal_2, sX11_deal_3, sX11_deal_6, sX11_deal_9, wo_81, wf_81_0, wv_81_0, wf_81_1, wv_81_1, wp_81_1, wf_81_2, wv_81_2, wp_81_2, wf_81_3, wv_81_3, wf_81_4, wv_81_4, wf_81_5, wv_81_5, wf_81_6, wv_81_6, wp_81_6, wf_81_7, wv_81_7, wp_81_7, wf_81_8, wv_81_8, wf_81_9, wv_81_9, wp_81_9, wf_81_10, wv_81_10, wf_81_11, wv_81_11, wp_81_11, wf_81_12, wv_81_12, wp_81_12, wf_81_13, wv_81_13, wf_81_14, wv_81_14, wp_81_14, wf_81_15, wv_81_15, wp_81_15, wf_81_16, wv_81_16, wp_81_16, wf_81_17, wv_81_17, wp_81_17, wf_81_18, wv_81_18, wf_81_19, wv_81_19, wf_81_20, wv_81_20, wf_81_21, wv_81_21, wf_81_22, wv_81_22, wf_81_23, wv_81_23, wf_81_24, wv_81_24, wf_81_25, wv_81_25, wf_81_26, wv_81_26, wf_81_27, wv_81_27, wf_81_28, wv_81_28, wf_81_29, wv_81_29, wf_81_30, wv_81_30, wf_81_31, wv_81_31, wf_81_32, wv_81_32, wf_81_33, wv_81_33, wp_81_33, wf_81_34, wv_81_34, wf_81_35, wv_81_35, wp_81_35, wf_81_36, wv_81_36, wf_81_37, wv_81_37, wp_81_37, wf_81_38, wv_81_38, wf_81_39, wv_81_39, wf_81_40, wv_81_40, wf_81_41, wv_81_41, wf_81_42, wv_81_42, wp_81_42, wf_81_43, wv_81_43, wp_81_43, wf_81_44, wv_81_44, wp_81_44, wf_81_45, wv_81_45, wf_81_46, wv_81_46, wf_81_47, wv_81_47, wf_81_48, wv_81_48, wp_81_48, wf_81_49, wv_81_49, wf_81_50, wv_81_50, wp_81_50, am_rt_some, am_rt_void, am_rt_none, am_rt_ite, ↓reduceIte, if_true, if_false, and_self, true_and, and_true, true_or, or_true, Bool.false_eq_true, reduceCtorEq, lt, g, not_true_eq_false, not_false_eq_true, false_and, and_false, true_and, and_true, and_self, or_self, true_or, or_true, false_or, or_false, ite_self, kEm14_m11, kEm14_m2, kEm14_m1, kEm14_0, kEm14_1, kEm14_2, kEm14_3, kEm14_4, kEm13_m11, kEm13_m2, kEm13_m1, kEm13_0, kEm13_1, kEm13_2, kEm13_3, kEm13_4, kEm12_m11, kEm12_m2, kEm12_m1, kEm12_0, kEm12_1, kEm12_2, kEm12_3, kEm12_4, kEm11_m2, kEm11_m1, kEm11_0, kEm11_1, kEm11_2, kEm11_3, kEm11_4, kEm5_m11, kEm5_m2, kEm5_m1, kEm5_0, kEm5_1, kEm5_2, kEm5_3, kEm5_4, kEm3_m11, kEm3_m2, kEm3_m1, kEm3_0, kEm3_1, kEm3_2, kEm3_3, kEm3_4, kEm2_m11, kEm2_m1, kEm2_0, kEm2_1, kEm2_2, kEm2_3, kEm2_4, kEm1_m11, kEm1_m2, kEm1_0, kEm1_1, kEm1_2, kEm1_3, kEm1_4, kE0_m11, kE0_m2, kE0_m1, kE0_1, kE0_2, kE0_3, kE0_4, kE1_m11, kE1_m2, kE1_m1, kE1_0, kE1_2, kE1_3, kE1_4, kE2_m11, kE2_m2, kE2_m1, kE2_0, kE2_1, kE2_3, kE2_4, kE3_m11, kE3_m2, kE3_m1, kE3_0, kE3_1, kE3_2, kE3_4, kE4_m11, kE4_m2, kE4_m1, kE4_0, kE4_1, kE4_2, kE4_3, kE5_m11, kE5_m2, kE5_m1, kE5_0, kE5_1, kE5_2, kE5_3, kE5_4, kE6_m11, kE6_m2, kE6_m1, kE6_0, kE6_1, kE6_2, kE6_3, kE6_4, kE7_m11, kE7_m2, kE7_m1, kE7_0, kE7_1, kE7_2, kE7_3, kE7_4, kE8_m11, kE8_m2, kE8_m1, kE8_0, kE8_1, kE8_2, kE8_3, kE8_4, kLm14_0, kLm14_1, kLm13_0, kLm13_1, kLm12_0, kLm12_1, kLm11_0, kLm11_1, kLm5_0, kLm5_1, kLm3_0, kLm3_1, kLm2_0, kLm2_1, kLm1_0, kLm1_1, kL0_0, kL0_1, kL1_0, kL1_1, kL2_0, kL2_1, kL3_0, kL3_1, kL4_0, kL4_1, kL5_0, kL5_1, kL6_0, kL6_1, kL7_0, kL7_1, kL8_0, kL8_1]
    · rw [if_neg g]
      have cp : ∀ (q u : Nat) (A2 : TI), u + q = t → (∀ c, c ≠ 103 → A2 c = A c) → (∀ j, j < u → A2 103 j = A 102 j) → ∃ A3 : TI, (∀ c, c ≠ 103 → A3 c = A c) ∧ (∀ j, j < t → A3 103 j = A 102 j) ∧ am_EV X d mX11_deal 24 [.ref 81, .int (nI k), .int (nI t), .int (nI t), .int (nI fi), .int (nI lo), .int (nI u)] [] (am_wd (am_u2 I 81 33 (nI lo)) A2 J) = some (none, am_wd (am_u2 I 81 33 (nI lo)) A3 J) := by
        intro q
        induction q with
        | zero =>
          intro u A2 hu f g
          have ut : u = t := by omega
          subst ut
          exact ⟨A2, f, g, by simp only [sX11_deal_24, sX11_deal_26, sX11_deal_27, sX11_deal_50, am_rt_some, am_rt_void, am_rt_none, am_rt_ite, ↓reduceIte, if_true, if_false, and_self, true_and, and_true, true_or, or_true, Bool.false_eq_true, reduceCtorEq, am_nlt (show u < 2147483648 by omega) (show u < 2147483648 by omega), Nat.lt_irrefl]⟩
        | succ q ihq =>
          intro u A2 hu f g
          have e102 : A2 102 = A 102 := f 102 (by decide)
          obtain ⟨A3, x1, x2, x3⟩ := ihq (u + 1) (am_u A2 103 (upd (A2 103) u (A 102 u))) (by omega) (fun c hc => (am_u_ne hc).trans (f c hc)) (fun j hj => by
            rw [am_u_at]
            by_cases y : j = u
            · subst y; rw [upd_at]
            · rw [upd_ne y]; exact g j (by omega))
          refine ⟨A3, x1, x2, ?_⟩
          rw [← x3, sX11_deal_24]
          simp only [sX11_deal_26, sX11_deal_27, sX11_deal_30, sX11_deal_31, sX11_deal_34, sX11_deal_36, sX11_deal_37, sX11_deal_40, sX11_deal_42, sX11_deal_43, sX11_deal_44, sX11_deal_47, wo_81, wf_81_0, wv_81_0, wf_81_1, wv_81_1, wp_81_1, wf_81_2, wv_81_2, wp_81_2, wf_81_3, wv_81_3, wf_81_4, wv_81_4, wf_81_5, wv_81_5, wf_81_6, wv_81_6, wp_81_6, wf_81_7, wv_81_7, wp_81_7, wf_81_8, wv_81_8, wf_81_9, wv_81_9, wp_81_9, wf_81_10, wv_81_10, wf_81_11, wv_81_11, wp_81_11, wf_81_12, wv_81_12, wp_81_12, wf_81_13, wv_81_13, wf_81_14, wv_81_14, wp_81_14, wf_81_15, wv_81_15, wp_81_15, wf_81_16, wv_81_16, wp_81_16, wf_81_17, wv_81_17, wp_81_17, wf_81_18, wv_81_18, wf_81_19, wv_81_19, wf_81_20, wv_81_20, wf_81_21, wv_81_21, wf_81_22, wv_81_22, wf_81_23, wv_81_23, wf_81_24, wv_81_24, wf_81_25, wv_81_25, wf_81_26, wv_81_26, wf_81_27, wv_81_27, wf_81_28, wv_81_28, wf_81_29, wv_81_29, wf_81_30, wv_81_30, wf_81_31, wv_81_31, wf_81_32, wv_81_32, wf_81_33, wv_81_33, wp_81_33, wf_81_34, wv_81_34, wf_81_35, wv_81_35, wp_81_35, wf_81_36, wv_81_36, wf_81_37, wv_81_37, wp_81_37, wf_81_38, wv_81_38, wf_81_39, wv_81_39, wf_81_40, wv_81_40, wf_81_41, wv_81_41, wf_81_42, wv_81_42, wp_81_42, wf_81_43, wv_81_43, wp_81_43, wf_81_44, wv_81_44, wp_81_44, wf_81_45, wv_81_45, wf_81_46, wv_81_46, wf_81_47, wv_81_47, wf_81_48, wv_81_48, wp_81_48, wf_81_49, wv_81_49, wf_81_50, wv_81_50, wp_81_50, wi_102, wg_102, ws_102, ww_102, wl_102, wn_102, wi_103, wg_103, ws_103, ww_103, wl_103, wn_103, am_rt_some, am_rt_void, am_rt_none, am_rt_ite, ↓reduceIte, if_true, if_false, and_self, true_and, and_true, true_or, or_true, Bool.false_eq_true, reduceCtorEq, am_nlt (show u < 2147483648 by omega) (show t < 2147483648 by omega), show u < t by omega, am_nin (show u < 8 by omega) (show (8 : Nat) < 2147483648 by omega), am_ncl (show u < 2147483648 by omega), e102, am_n1]
      obtain ⟨A3, x1, x2, x3⟩ := cp t 0 A (by omega) (fun _ _ => rfl) (fun j hj => absurd hj (Nat.not_lt_zero j))
      refine ⟨am_u2 I 81 33 (nI lo), A3, ?_, (Fr.rf.ui (c := 81) (k := 33) (by decide)).tr ⟨fun _ _ _ => rfl, fun c h => x1 c (fun y => h (by rw [y]; decide)), fun _ _ => rfl⟩, fun f hf => by rw [x1 101 (by decide)], fun j hj => by rw [x1 102 (by decide)], ?_⟩
      · simp only [eX11_deal, sX11_deal_0, sX11_deal_2, sX11_deal_3, sX11_deal_6, sX11_deal_9, sX11_deal_10, sX11_deal_11, sX11_deal_12, sX11_deal_15, sX11_deal_16, sX11_deal_18, sX11_deal_21, sX11_deal_22, wo_81, wf_81_0, wv_81_0, wf_81_1, wv_81_1, wp_81_1, wf_81_2, wv_81_2, wp_81_2, wf_81_3, wv_81_3, wf_81_4, wv_81_4, wf_81_5, wv_81_5, wf_81_6, wv_81_6, wp_81_6, wf_81_7, wv_81_7, wp_81_7, wf_81_8, wv_81_8, wf_81_9, wv_81_9, wp_81_9, wf_81_10, wv_81_10, wf_81_11, wv_81_11, wp_81_11, wf_81_12, wv_81_12, wp_81_12, wf_81_13, wv_81_13, wf_81_14, wv_81_14, wp_81_14, wf_81_15, wv_81_15, wp_81_15, wf_81_16, wv_81_16, wp_81_16, wf_81_17, wv_81_17, wp_81_17, wf_81_18, wv_81_18, wf_81_19, wv_81_19, wf_81_20, wv_81_20, wf_81_21, wv_81_21, wf_81_22, wv_81_22, wf_81_23, wv_81_23, wf_81_24, wv_81_24, wf_81_25, wv_81_25, wf_81_26, wv_81_26, wf_81_27, wv_81_27, wf_81_28, wv_81_28, wf_81_29, wv_81_29, wf_81_30, wv_81_30, wf_81_31, wv_81_31, wf_81_32, wv_81_32, wf_81_33, wv_81_33, wp_81_33, wf_81_34, wv_81_34, wf_81_35, wv_81_35, wp_81_35, wf_81_36, wv_81_36, wf_81_37, wv_81_37, wp_81_37, wf_81_38, wv_81_38, wf_81_39, wv_81_39, wf_81_40, wv_81_40, wf_81_41, wv_81_41, wf_81_42, wv_81_42, wp_81_42, wf_81_43, wv_81_43, wp_81_43, wf_81_44, wv_81_44, wp_81_44, wf_81_45, wv_81_45, wf_81_46, wv_81_46, wf_81_47, wv_81_47, wf_81_48, wv_81_48, wp_81_48, wf_81_49, wv_81_49, wf_81_50, wv_81_50, wp_81_50, am_rt_some, am_rt_void, am_rt_none, am_rt_ite, ↓reduceIte, if_true, if_false, and_self, true_and, and_true, true_or, or_true, Bool.false_eq_true, reduceCtorEq, lt, g, not_true_eq_false, not_false_eq_true, false_and, and_false, true_and, and_true, and_self, or_self, true_or, or_true, false_or, or_false, ite_self, kEm14_m11, kEm14_m2, kEm14_m1, kEm14_0, kEm14_1, kEm14_2, kEm14_3, kEm14_4, kEm13_m11, kEm13_m2, kEm13_m1, kEm13_0, kEm13_1, kEm13_2, kEm13_3, kEm13_4, kEm12_m11, kEm12_m2, kEm12_m1, kEm12_0, kEm12_1, kEm12_2, kEm12_3, kEm12_4, kEm11_m2, kEm11_m1, kEm11_0, kEm11_1, kEm11_2, kEm11_3, kEm11_4, kEm5_m11, kEm5_m2, kEm5_m1, kEm5_0, kEm5_1, kEm5_2, kEm5_3, kEm5_4, kEm3_m11, kEm3_m2, kEm3_m1, kEm3_0, kEm3_1, kEm3_2, kEm3_3, kEm3_4, kEm2_m11, kEm2_m1, kEm2_0, kEm2_1, kEm2_2, kEm2_3, kEm2_4, kEm1_m11, kEm1_m2, kEm1_0, kEm1_1, kEm1_2, kEm1_3, kEm1_4, kE0_m11, kE0_m2, kE0_m1, kE0_1, kE0_2, kE0_3, kE0_4, kE1_m11, kE1_m2, kE1_m1, kE1_0, kE1_2, kE1_3, kE1_4, kE2_m11, kE2_m2, kE2_m1, kE2_0, kE2_1, kE2_3, kE2_4, kE3_m11, kE3_m2, kE3_m1, kE3_0, kE3_1, kE3_2, kE3_4, kE4_m11, kE4_m2, kE4_m1, kE4_0, kE4_1, kE4_2, kE4_3, kE5_m11, kE5_m2, kE5_m1, kE5_0, kE5_1, kE5_2, kE5_3, kE5_4, kE6_m11, kE6_m2, kE6_m1, kE6_0, kE6_1, kE6_2, kE6_3, kE6_4, kE7_m11, kE7_m2, kE7_m1, kE7_0, kE7_1, kE7_2, kE7_3, kE7_4, kE8_m11, kE8_m2, kE8_m1, kE8_0, kE8_1, kE8_2, kE8_3, kE8_4, kLm14_0, kLm14_1, kLm13_0, kLm13_1, kLm12_0, kLm12_1, kLm11_0, kLm11_1, kLm5_0, kLm5_1, kLm3_0, kLm3_1, kLm2_0, kLm2_1, kLm1_0, kLm1_1, kL0_0, kL0_1, kL1_0, kL1_1, kL2_0, kL2_1, kL3_0, kL3_1, kL4_0, kL4_1, kL5_0, kL5_1, kL6_0, kL6_1, kL7_0, kL7_1, kL8_0, kL8_1]
        exact x3
      · refine ⟨by omega, by rw [am_u2_at], fun j hj => ?_⟩
        rw [x2 j hj]
        exact h44 j hj
  | succ m ih =>
    intro t lo bu wy s I A ht hB h43 h44 hs hlo hbu
    have lt := rpF_lt hs (show lo ≤ 480 by omega) (show nI lo < 2147483647 from nI_lt (b := 2147483647) (by omega) (by decide))
    have h0 : layM nd fi (m + 1) t lo bu wy s = if geF lo s = true then s else fiF (fun f s => layM nd fi m (t + 1) (max lo (bu f + nd t)) (unF bu f (bu f + nd t)) (unF wy t f) s) fi s := rfl
    rw [h0]
    by_cases g : geF lo s = true
    · rw [if_pos g]
      refine ⟨I, A, ?_, Fr.rf, fun _ _ => rfl, fun _ _ => rfl, hs⟩
      simp only [eX11_deal, sX11_deal_0, sX11_deal_2, sX11_deal_3, sX11_deal_6, sX11_deal_9, wo_81, wf_81_0, wv_81_0, wf_81_1, wv_81_1, wp_81_1, wf_81_2, wv_81_2, wp_81_2, wf_81_3, wv_81_3, wf_81_4, wv_81_4, wf_81_5, wv_81_5, wf_81_6, wv_81_6, wp_81_6, wf_81_7, wv_81_7, wp_81_7, wf_81_8, wv_81_8, wf_81_9, wv_81_9, wp_81_9, wf_81_10, wv_81_10, wf_81_11, wv_81_11, wp_81_11, wf_81_12, wv_81_12, wp_81_12, wf_81_13, wv_81_13, wf_81_14, wv_81_14, wp_81_14, wf_81_15, wv_81_15, wp_81_15, wf_81_16, wv_81_16, wp_81_16, wf_81_17, wv_81_17, wp_81_17, wf_81_18, wv_81_18, wf_81_19, wv_81_19, wf_81_20, wv_81_20, wf_81_21, wv_81_21, wf_81_22, wv_81_22, wf_81_23, wv_81_23, wf_81_24, wv_81_24, wf_81_25, wv_81_25, wf_81_26, wv_81_26, wf_81_27, wv_81_27, wf_81_28, wv_81_28, wf_81_29, wv_81_29, wf_81_30, wv_81_30, wf_81_31, wv_81_31, wf_81_32, wv_81_32, wf_81_33, wv_81_33, wp_81_33, wf_81_34, wv_81_34, wf_81_35, wv_81_35, wp_81_35, wf_81_36, wv_81_36, wf_81_37, wv_81_37, wp_81_37, wf_81_38, wv_81_38, wf_81_39, wv_81_39, wf_81_40, wv_81_40, wf_81_41, wv_81_41, wf_81_42, wv_81_42, wp_81_42, wf_81_43, wv_81_43, wp_81_43, wf_81_44, wv_81_44, wp_81_44, wf_81_45, wv_81_45, wf_81_46, wv_81_46, wf_81_47, wv_81_47, wf_81_48, wv_81_48, wp_81_48, wf_81_49, wv_81_49, wf_81_50, wv_81_50, wp_81_50, am_rt_some, am_rt_void, am_rt_none, am_rt_ite, ↓reduceIte, if_true, if_false, and_self, true_and, and_true, true_or, or_true, Bool.false_eq_true, reduceCtorEq, lt, g, not_true_eq_false, not_false_eq_true, false_and, and_false, true_and, and_true, and_self, or_self, true_or, or_true, false_or, or_false, ite_self, kEm14_m11, kEm14_m2, kEm14_m1, kEm14_0, kEm14_1, kEm14_2, kEm14_3, kEm14_4, kEm13_m11, kEm13_m2, kEm13_m1, kEm13_0, kEm13_1, kEm13_2, kEm13_3, kEm13_4, kEm12_m11, kEm12_m2, kEm12_m1, kEm12_0, kEm12_1, kEm12_2, kEm12_3, kEm12_4, kEm11_m2, kEm11_m1, kEm11_0, kEm11_1, kEm11_2, kEm11_3, kEm11_4, kEm5_m11, kEm5_m2, kEm5_m1, kEm5_0, kEm5_1, kEm5_2, kEm5_3, kEm5_4, kEm3_m11, kEm3_m2, kEm3_m1, kEm3_0, kEm3_1, kEm3_2, kEm3_3, kEm3_4, kEm2_m11, kEm2_m1, kEm2_0, kEm2_1, kEm2_2, kEm2_3, kEm2_4, kEm1_m11, kEm1_m2, kEm1_0, kEm1_1, kEm1_2, kEm1_3, kEm1_4, kE0_m11, kE0_m2, kE0_m1, kE0_1, kE0_2, kE0_3, kE0_4, kE1_m11, kE1_m2, kE1_m1, kE1_0, kE1_2, kE1_3, kE1_4, kE2_m11, kE2_m2, kE2_m1, kE2_0, kE2_1, kE2_3, kE2_4, kE3_m11, kE3_m2, kE3_m1, kE3_0, kE3_1, kE3_2, kE3_4, kE4_m11, kE4_m2, kE4_m1, kE4_0, kE4_1, kE4_2, kE4_3, kE5_m11, kE5_m2, kE5_m1, kE5_0, kE5_1, kE5_2, kE5_3, kE5_4, kE6_m11, kE6_m2, kE6_m1, kE6_0, kE6_1, kE6_2, kE6_3, kE6_4, kE7_m11, kE7_m2, kE7_m1, kE7_0, kE7_1, kE7_2, kE7_3, kE7_4, kE8_m11, kE8_m2, kE8_m1, kE8_0, kE8_1, kE8_2, kE8_3, kE8_4, kLm14_0, kLm14_1, kLm13_0, kLm13_1, kLm12_0, kLm12_1, kLm11_0, kLm11_1, kLm5_0, kLm5_1, kLm3_0, kLm3_1, kLm2_0, kLm2_1, kLm1_0, kLm1_1, kL0_0, kL0_1, kL1_0, kL1_1, kL2_0, kL2_1, kL3_0, kL3_1, kL4_0, kL4_1, kL5_0, kL5_1, kL6_0, kL6_1, kL7_0, kL7_1, kL8_0, kL8_1]
    rw [if_neg g]
    generalize hst : (fun f s => layM nd fi m (t + 1) (max lo (bu f + nd t)) (unF bu f (bu f + nd t)) (unF wy t f) s) = step
    obtain ⟨hndt, htl, hbt⟩ := hnd t (by omega)
    have lp : ∀ (q u : Nat) (I2 A2 : TI), u + q = fi → Fr [(81, 33)] [101, 102, 103] [] I A J I2 A2 J → (∀ f, f < 3 → A2 101 f = nI (bu f)) → (∀ j, j < t → A2 102 j = nI (wy j)) → rpF (I2 81 33) (A2 103) 2147483647 P (fiF step u s) → ∃ I' A', am_EV X (d + m + 1) mX11_deal 54 [.ref 81, .int (nI k), .int (nI t), .int (nI P), .int (nI fi), .int (nI lo), .int (nI u)] [] (am_wd I2 A2 J) = some (none, am_wd I' A' J) ∧ Fr [(81, 33)] [101, 102, 103] [] I A J I' A' J ∧ (∀ f, f < 3 → A' 101 f = nI (bu f)) ∧ (∀ j, j < t → A' 102 j = nI (wy j)) ∧ rpF (I' 81 33) (A' 103) 2147483647 P (fiF step fi s) := by
      intro q
      induction q with
      | zero =>
        intro u I2 A2 hu f a43 a44 hr
        have uf : u = fi := by omega
        subst uf
        refine ⟨I2, A2, ?_, f, a43, a44, hr⟩
        simp only [sX11_deal_54, sX11_deal_56, sX11_deal_58, sX11_deal_130, am_rt_some, am_rt_void, am_rt_none, am_rt_ite, ↓reduceIte, if_true, if_false, and_self, true_and, and_true, true_or, or_true, Bool.false_eq_true, reduceCtorEq, am_nlt (show u < 2147483648 by omega) (show u < 2147483648 by omega), Nat.lt_irrefl]
      | succ q ihq =>
        intro u I2 A2 hu f a43 a44 hr
        have hu3 : u < 3 := by omega
        have b1 := hbu u hu3
        have hadd : A2 101 u + nI (nd t) = nI (bu u + nd t) := by rw [a43 u hu3]; exact i_add _ _
        have f1 : Fr [(81, 33)] [101, 102, 103] [] I A J I2 (am_u (am_u A2 102 (upd (A2 102) t (nI u))) 101 (upd (A2 101) u (nI (bu u + nd t)))) J := (f.ua (by decide)).ua (by decide)
        have hB0 : ShB I2 (am_u A2 102 (upd (A2 102) t (nI u))) J k ln b := hB.fr (f.ua (c := 102) (by decide)) (by decide) (by decide) (by decide)
        have hB1 : ShB I2 (am_u (am_u A2 102 (upd (A2 102) t (nI u))) 101 (upd (A2 101) u (nI (bu u + nd t)))) J k ln b := hB.fr f1 (by decide) (by decide) (by decide)
        have by0 := r_byteAt (X := X) (d := d + m) hB0 (show t < 2147483648 by omega)
        rw [if_pos htl, hbt] at by0
        obtain ⟨I3, A3, k1, k2, k3, k4, k5⟩ := ih (t + 1) (max lo (bu u + nd t)) (unF bu u (bu u + nd t)) (unF wy t u) (fiF step u s) I2 (am_u (am_u A2 102 (upd (A2 102) t (nI u))) 101 (upd (A2 101) u (nI (bu u + nd t)))) (by omega) hB1 (fun o ho => by
          rw [am_u_at]
          by_cases y : o = u
          · subst y; rw [upd_at, unF_at]
          · rw [upd_ne y, unF_ne y]; exact a43 o ho) (fun j hj => by
          rw [am_u_ne (show (102 : Nat) ≠ 101 by decide), am_u_at]
          by_cases y : j = t
          · subst y; rw [upd_at, unF_at]
          · rw [upd_ne y, unF_ne y]; exact a44 j (by omega)) hr (by
          have := Nat.max_le (a := lo) (b := bu u + nd t) (c := 60 * (t + 1))
          exact this.mpr ⟨by omega, by omega⟩) (fun o ho => by
          by_cases y : o = u
          · subst y; rw [unF_at]; omega
          · rw [unF_ne y]; have := hbu o ho; omega)
        have F3 : Fr [(81, 33)] [101, 102, 103] [] I A J I3 A3 J := f1.tr k2
        have hB3 : ShB I3 A3 J k ln b := hB.fr F3 (by decide) (by decide) (by decide)
        have by3 := r_byteAt (X := X) (d := d + m) hB3 (show t < 2147483648 by omega)
        rw [if_pos htl, hbt] at by3
        have e43 : A3 101 u = nI (bu u + nd t) := by rw [k3 u hu3, am_u_at, upd_at]
        have hsub : A3 101 u - nI (nd t) = nI (bu u) := by rw [e43, i_sub (by omega)]; congr 1; omega
        obtain ⟨I4, A4, x1, x2, x3, x4, x5⟩ := ihq (u + 1) I3 (am_u A3 101 (upd (A3 101) u (nI (bu u)))) (by omega) (F3.ua (by decide)) (fun o ho => by
          rw [am_u_at]
          by_cases y : o = u
          · subst y; rw [upd_at]
          · rw [upd_ne y, k3 o ho, am_u_at, upd_ne y]; exact a43 o ho) (fun j hj => by
          rw [am_u_ne (show (102 : Nat) ≠ 101 by decide), k4 j (by omega), am_u_ne (show (102 : Nat) ≠ 101 by decide), am_u_at, upd_ne (by omega)]; exact a44 j hj) (by
          rw [am_u_ne (show (103 : Nat) ≠ 101 by decide)]
          rw [← hst] at k5 ⊢
          exact k5)
        refine ⟨I4, A4, ?_, x2, x3, x4, x5⟩
        rw [← x1, sX11_deal_54]
        have k1' : am_CL X (d + m + 1) mX11_deal [.ref 81, .int (nI k), .int (nI (t + 1)), .int (nI P), .int (nI fi), .int (nI (max lo (bu u + nd t)))] (am_wd I2 (am_u (am_u A2 102 (upd (A2 102) t (nI u))) 101 (upd (A2 101) u (nI (bu u + nd t)))) J) = some (none, am_wd I3 A3 J) := k1
        simp only [sX11_deal_56, sX11_deal_58, sX11_deal_61, sX11_deal_62, sX11_deal_65, sX11_deal_66, sX11_deal_68, sX11_deal_69, sX11_deal_70, sX11_deal_73, sX11_deal_75, sX11_deal_76, sX11_deal_77, sX11_deal_78, sX11_deal_79, sX11_deal_80, sX11_deal_83, sX11_deal_84, sX11_deal_85, sX11_deal_86, sX11_deal_87, sX11_deal_88, sX11_deal_89, sX11_deal_90, sX11_deal_91, sX11_deal_93, sX11_deal_95, sX11_deal_96, sX11_deal_99, sX11_deal_101, sX11_deal_102, wo_81, wf_81_0, wv_81_0, wf_81_1, wv_81_1, wp_81_1, wf_81_2, wv_81_2, wp_81_2, wf_81_3, wv_81_3, wf_81_4, wv_81_4, wf_81_5, wv_81_5, wf_81_6, wv_81_6, wp_81_6, wf_81_7, wv_81_7, wp_81_7, wf_81_8, wv_81_8, wf_81_9, wv_81_9, wp_81_9, wf_81_10, wv_81_10, wf_81_11, wv_81_11, wp_81_11, wf_81_12, wv_81_12, wp_81_12, wf_81_13, wv_81_13, wf_81_14, wv_81_14, wp_81_14, wf_81_15, wv_81_15, wp_81_15, wf_81_16, wv_81_16, wp_81_16, wf_81_17, wv_81_17, wp_81_17, wf_81_18, wv_81_18, wf_81_19, wv_81_19, wf_81_20, wv_81_20, wf_81_21, wv_81_21, wf_81_22, wv_81_22, wf_81_23, wv_81_23, wf_81_24, wv_81_24, wf_81_25, wv_81_25, wf_81_26, wv_81_26, wf_81_27, wv_81_27, wf_81_28, wv_81_28, wf_81_29, wv_81_29, wf_81_30, wv_81_30, wf_81_31, wv_81_31, wf_81_32, wv_81_32, wf_81_33, wv_81_33, wp_81_33, wf_81_34, wv_81_34, wf_81_35, wv_81_35, wp_81_35, wf_81_36, wv_81_36, wf_81_37, wv_81_37, wp_81_37, wf_81_38, wv_81_38, wf_81_39, wv_81_39, wf_81_40, wv_81_40, wf_81_41, wv_81_41, wf_81_42, wv_81_42, wp_81_42, wf_81_43, wv_81_43, wp_81_43, wf_81_44, wv_81_44, wp_81_44, wf_81_45, wv_81_45, wf_81_46, wv_81_46, wf_81_47, wv_81_47, wf_81_48, wv_81_48, wp_81_48, wf_81_49, wv_81_49, wf_81_50, wv_81_50, wp_81_50, wi_101, wg_101, ws_101, ww_101, wl_101, wn_101, wi_102, wg_102, ws_102, ww_102, wl_102, wn_102, am_rt_some, am_rt_void, am_rt_none, am_rt_ite, ↓reduceIte, if_true, if_false, and_self, true_and, and_true, true_or, or_true, Bool.false_eq_true, reduceCtorEq, am_nlt (show u < 2147483648 by omega) (show fi < 2147483648 by omega), show u < fi by omega, am_nin (show t < 8 by omega) (show (8 : Nat) < 2147483648 by omega), am_ncl (show t < 2147483648 by omega), am_nin (show u < 3 by omega) (show (3 : Nat) < 2147483648 by omega), am_ncl (show u < 2147483648 by omega), by0, am_u_ne (show (101 : Nat) ≠ 102 by decide), am_u_at, hadd, am_n1, upd_at, mxI (show lo < 2147483648 by omega) (show bu u + nd t < 2147483648 by omega)]
        simp only [sX11_deal_105, sX11_deal_108, sX11_deal_109, sX11_deal_112, sX11_deal_114, sX11_deal_115, sX11_deal_116, sX11_deal_117, sX11_deal_118, sX11_deal_119, sX11_deal_122, sX11_deal_123, sX11_deal_124, sX11_deal_127, wo_81, wf_81_0, wv_81_0, wf_81_1, wv_81_1, wp_81_1, wf_81_2, wv_81_2, wp_81_2, wf_81_3, wv_81_3, wf_81_4, wv_81_4, wf_81_5, wv_81_5, wf_81_6, wv_81_6, wp_81_6, wf_81_7, wv_81_7, wp_81_7, wf_81_8, wv_81_8, wf_81_9, wv_81_9, wp_81_9, wf_81_10, wv_81_10, wf_81_11, wv_81_11, wp_81_11, wf_81_12, wv_81_12, wp_81_12, wf_81_13, wv_81_13, wf_81_14, wv_81_14, wp_81_14, wf_81_15, wv_81_15, wp_81_15, wf_81_16, wv_81_16, wp_81_16, wf_81_17, wv_81_17, wp_81_17, wf_81_18, wv_81_18, wf_81_19, wv_81_19, wf_81_20, wv_81_20, wf_81_21, wv_81_21, wf_81_22, wv_81_22, wf_81_23, wv_81_23, wf_81_24, wv_81_24, wf_81_25, wv_81_25, wf_81_26, wv_81_26, wf_81_27, wv_81_27, wf_81_28, wv_81_28, wf_81_29, wv_81_29, wf_81_30, wv_81_30, wf_81_31, wv_81_31, wf_81_32, wv_81_32, wf_81_33, wv_81_33, wp_81_33, wf_81_34, wv_81_34, wf_81_35, wv_81_35, wp_81_35, wf_81_36, wv_81_36, wf_81_37, wv_81_37, wp_81_37, wf_81_38, wv_81_38, wf_81_39, wv_81_39, wf_81_40, wv_81_40, wf_81_41, wv_81_41, wf_81_42, wv_81_42, wp_81_42, wf_81_43, wv_81_43, wp_81_43, wf_81_44, wv_81_44, wp_81_44, wf_81_45, wv_81_45, wf_81_46, wv_81_46, wf_81_47, wv_81_47, wf_81_48, wv_81_48, wp_81_48, wf_81_49, wv_81_49, wf_81_50, wv_81_50, wp_81_50, wi_101, wg_101, ws_101, ww_101, wl_101, wn_101, am_rt_some, am_rt_void, am_rt_none, am_rt_ite, ↓reduceIte, if_true, if_false, and_self, true_and, and_true, true_or, or_true, Bool.false_eq_true, reduceCtorEq, k1', by3, am_nin (show u < 3 by omega) (show (3 : Nat) < 2147483648 by omega), am_ncl (show u < 2147483648 by omega), hsub, am_n1]
    obtain ⟨I', A', x1, x2, x3, x4, x5⟩ := lp fi 0 I A (by omega) Fr.rf h43 h44 hs
    refine ⟨I', A', ?_, x2, fun f hf => (x3 f hf).trans (h43 f hf).symm, fun j hj => (x4 j hj).trans (h44 j hj).symm, x5⟩
    have tne : (nI t = nI P) = False := by rw [i_eq (show t < 2147483648 by omega) (show P < 2147483648 by omega)]; exact eq_false (by omega)
    simp only [eX11_deal, sX11_deal_0, sX11_deal_2, sX11_deal_3, sX11_deal_6, sX11_deal_9, sX11_deal_10, sX11_deal_11, sX11_deal_12, sX11_deal_51, sX11_deal_52, wo_81, wf_81_0, wv_81_0, wf_81_1, wv_81_1, wp_81_1, wf_81_2, wv_81_2, wp_81_2, wf_81_3, wv_81_3, wf_81_4, wv_81_4, wf_81_5, wv_81_5, wf_81_6, wv_81_6, wp_81_6, wf_81_7, wv_81_7, wp_81_7, wf_81_8, wv_81_8, wf_81_9, wv_81_9, wp_81_9, wf_81_10, wv_81_10, wf_81_11, wv_81_11, wp_81_11, wf_81_12, wv_81_12, wp_81_12, wf_81_13, wv_81_13, wf_81_14, wv_81_14, wp_81_14, wf_81_15, wv_81_15, wp_81_15, wf_81_16, wv_81_16, wp_81_16, wf_81_17, wv_81_17, wp_81_17, wf_81_18, wv_81_18, wf_81_19, wv_81_19, wf_81_20, wv_81_20, wf_81_21, wv_81_21, wf_81_22, wv_81_22, wf_81_23, wv_81_23, wf_81_24, wv_81_24, wf_81_25, wv_81_25, wf_81_26, wv_81_26, wf_81_27, wv_81_27, wf_81_28, wv_81_28, wf_81_29, wv_81_29, wf_81_30, wv_81_30, wf_81_31, wv_81_31, wf_81_32, wv_81_32, wf_81_33, wv_81_33, wp_81_33, wf_81_34, wv_81_34, wf_81_35, wv_81_35, wp_81_35, wf_81_36, wv_81_36, wf_81_37, wv_81_37, wp_81_37, wf_81_38, wv_81_38, wf_81_39, wv_81_39, wf_81_40, wv_81_40, wf_81_41, wv_81_41, wf_81_42, wv_81_42, wp_81_42, wf_81_43, wv_81_43, wp_81_43, wf_81_44, wv_81_44, wp_81_44, wf_81_45, wv_81_45, wf_81_46, wv_81_46, wf_81_47, wv_81_47, wf_81_48, wv_81_48, wp_81_48, wf_81_49, wv_81_49, wf_81_50, wv_81_50, wp_81_50, am_rt_some, am_rt_void, am_rt_none, am_rt_ite, ↓reduceIte, if_true, if_false, and_self, true_and, and_true, true_or, or_true, Bool.false_eq_true, reduceCtorEq, lt, g, not_true_eq_false, not_false_eq_true, false_and, and_false, true_and, and_true, and_self, or_self, true_or, or_true, false_or, or_false, ite_self, kEm14_m11, kEm14_m2, kEm14_m1, kEm14_0, kEm14_1, kEm14_2, kEm14_3, kEm14_4, kEm13_m11, kEm13_m2, kEm13_m1, kEm13_0, kEm13_1, kEm13_2, kEm13_3, kEm13_4, kEm12_m11, kEm12_m2, kEm12_m1, kEm12_0, kEm12_1, kEm12_2, kEm12_3, kEm12_4, kEm11_m2, kEm11_m1, kEm11_0, kEm11_1, kEm11_2, kEm11_3, kEm11_4, kEm5_m11, kEm5_m2, kEm5_m1, kEm5_0, kEm5_1, kEm5_2, kEm5_3, kEm5_4, kEm3_m11, kEm3_m2, kEm3_m1, kEm3_0, kEm3_1, kEm3_2, kEm3_3, kEm3_4, kEm2_m11, kEm2_m1, kEm2_0, kEm2_1, kEm2_2, kEm2_3, kEm2_4, kEm1_m11, kEm1_m2, kEm1_0, kEm1_1, kEm1_2, kEm1_3, kEm1_4, kE0_m11, kE0_m2, kE0_m1, kE0_1, kE0_2, kE0_3, kE0_4, kE1_m11, kE1_m2, kE1_m1, kE1_0, kE1_2, kE1_3, kE1_4, kE2_m11, kE2_m2, kE2_m1, kE2_0, kE2_1, kE2_3, kE2_4, kE3_m11, kE3_m2, kE3_m1, kE3_0, kE3_1, kE3_2, kE3_4, kE4_m11, kE4_m2, kE4_m1, kE4_0, kE4_1, kE4_2, kE4_3, kE5_m11, kE5_m2, kE5_m1, kE5_0, kE5_1, kE5_2, kE5_3, kE5_4, kE6_m11, kE6_m2, kE6_m1, kE6_0, kE6_1, kE6_2, kE6_3, kE6_4, kE7_m11, kE7_m2, kE7_m1, kE7_0, kE7_1, kE7_2, kE7_3, kE7_4, kE8_m11, kE8_m2, kE8_m1, kE8_0, kE8_1, kE8_2, kE8_3, kE8_4, kLm14_0, kLm14_1, kLm13_0, kLm13_1, kLm12_0, kLm12_1, kLm11_0, kLm11_1, kLm5_0, kLm5_1, kLm3_0, kLm3_1, kLm2_0, kLm2_1, kLm1_0, kLm1_1, kL0_0, kL0_1, kL1_0, kL1_1, kL2_0, kL2_1, kL3_0, kL3_1, kL4_0, kL4_1, kL5_0, kL5_1, kL6_0, kL6_1, kL7_0, kL7_1, kL8_0, kL8_1, tne]
    exact x1
end FI

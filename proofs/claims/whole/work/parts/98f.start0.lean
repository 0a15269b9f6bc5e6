/-! THE WORLD BEHIND THE CONSTRUCTORS -/
section S0
variable {X : Nat × (Nat → Int32)} {d : Nat}
def I0 : TI := fun c k => if c = 6 ∧ k = 2 then 5 else 0
def aF82 : Nat → Int32 := upd (fun _ => 0) (104 : Int32).toNatClampNeg 5
def aF90 : Nat → Int32 := upd (upd (upd (upd (upd (upd (fun _ => 0) (0 : Int32).toNatClampNeg (vp_nar .char 115)) (1 : Int32).toNatClampNeg (vp_nar .char 116)) (2 : Int32).toNatClampNeg (vp_nar .char 109)) (3 : Int32).toNatClampNeg (vp_nar .char 102)) (4 : Int32).toNatClampNeg (vp_nar .char 105)) (5 : Int32).toNatClampNeg (vp_nar .char 119)
def aF95 : Nat → Int32 := upd (upd (upd (upd (upd (upd (fun _ => 0) (0 : Int32).toNatClampNeg (-1)) (1 : Int32).toNatClampNeg (-1)) (2 : Int32).toNatClampNeg (-1)) (3 : Int32).toNatClampNeg (-1)) (4 : Int32).toNatClampNeg (-1)) (5 : Int32).toNatClampNeg (-1)
def aF110 : Nat → Int32 := upd (upd (upd (upd (upd (upd (upd (upd (fun _ => 0) (0 : Int32).toNatClampNeg (-1)) (1 : Int32).toNatClampNeg 0) (2 : Int32).toNatClampNeg 0) (3 : Int32).toNatClampNeg 2) (4 : Int32).toNatClampNeg 1) (5 : Int32).toNatClampNeg 3) (6 : Int32).toNatClampNeg 0) (7 : Int32).toNatClampNeg 4
def aF111 : Nat → Int32 := upd (upd (upd (upd (upd (upd (upd (upd (upd (upd (upd (upd (upd (upd (upd (upd (upd (upd (upd (upd (upd (upd (upd (upd (upd (upd (upd (upd (upd (upd (upd (upd (fun _ => 0) (0 : Int32).toNatClampNeg 1) (1 : Int32).toNatClampNeg 10) (2 : Int32).toNatClampNeg 11) (3 : Int32).toNatClampNeg 2) (4 : Int32).toNatClampNeg 20) (5 : Int32).toNatClampNeg 0) (6 : Int32).toNatClampNeg 0) (7 : Int32).toNatClampNeg 0) (8 : Int32).toNatClampNeg 0) (9 : Int32).toNatClampNeg 30) (10 : Int32).toNatClampNeg 0) (11 : Int32).toNatClampNeg 0) (12 : Int32).toNatClampNeg 0) (13 : Int32).toNatClampNeg 41) (14 : Int32).toNatClampNeg 40) (15 : Int32).toNatClampNeg 0) (16 : Int32).toNatClampNeg 0) (17 : Int32).toNatClampNeg 0) (18 : Int32).toNatClampNeg 50) (19 : Int32).toNatClampNeg 0) (20 : Int32).toNatClampNeg 0) (21 : Int32).toNatClampNeg 0) (22 : Int32).toNatClampNeg 0) (23 : Int32).toNatClampNeg 60) (24 : Int32).toNatClampNeg 70) (25 : Int32).toNatClampNeg 0) (26 : Int32).toNatClampNeg 0) (27 : Int32).toNatClampNeg 0) (28 : Int32).toNatClampNeg 0) (29 : Int32).toNatClampNeg 80) (30 : Int32).toNatClampNeg 0) (31 : Int32).toNatClampNeg 81
def A0 : TI := fun c => if c = 82 then aF82 else if c = 90 then aF90 else if c = 95 then aF95 else if c = 110 then aF110 else if c = 111 then aF111 else fun _ => 0
def J0 : TJ := fun _ _ => 0
theorem e_19 : (va_up (va_up (va_up (va_up (fun _ => none) (0 : Int32).toNatClampNeg (some (0 + 20))) (1 : Int32).toNatClampNeg (some (0 + 24))) (2 : Int32).toNatClampNeg (some (0 + 28))) (3 : Int32).toNatClampNeg (some (0 + 32))) = (fun j => if j < 4 then some (20 + 4 * j) else none) := by
  funext j
  by_cases h : j < 4
  · rw [if_pos h]
    rcases (by omega : j = 0 ∨ j = 1 ∨ j = 2 ∨ j = 3) with rfl | rfl | rfl | rfl <;> rfl
  · rw [if_neg h]
    have e : ∀ (g : Nat → Option Nat) (q : Nat) (v : Option Nat), q < 4 → va_up g q v j = g j := fun g q v hq => if_neg (by omega)
    rw [e _ _ _ (by decide), e _ _ _ (by decide), e _ _ _ (by decide), e _ _ _ (by decide)]
theorem e_68 : (va_up (va_up (va_up (va_up (va_up (va_up (fun _ => none) (0 : Int32).toNatClampNeg (some (0 + 69))) (1 : Int32).toNatClampNeg (some (0 + 71))) (2 : Int32).toNatClampNeg (some (0 + 73))) (3 : Int32).toNatClampNeg (some (0 + 75))) (4 : Int32).toNatClampNeg (some (0 + 77))) (5 : Int32).toNatClampNeg (some (0 + 79))) = (fun j => if j < 6 then some (69 + 2 * j) else none) := by
  funext j
  by_cases h : j < 6
  · rw [if_pos h]
    rcases (by omega : j = 0 ∨ j = 1 ∨ j = 2 ∨ j = 3 ∨ j = 4 ∨ j = 5) with rfl | rfl | rfl | rfl | rfl | rfl <;> rfl
  · rw [if_neg h]
    have e : ∀ (g : Nat → Option Nat) (q : Nat) (v : Option Nat), q < 6 → va_up g q v j = g j := fun g q v hq => if_neg (by omega)
    rw [e _ _ _ (by decide), e _ _ _ (by decide), e _ _ _ (by decide), e _ _ _ (by decide), e _ _ _ (by decide), e _ _ _ (by decide)]
set_option maxRecDepth 100000 in
theorem e_cells : ni10 0 ++ ni11 81 = am_wL I0 A0 J0 := by
  unfold ni10
  rw [e_19, e_68]
  rfl
theorem e_wd {f : Nat → am_C} {I A : TI} {J : TJ} : am_lx 0 3246 f (am_wL I A J) = am_wd I A J := by
  have hl : 0 + (am_wL I A J).length = 114 := rfl
  have hf : (fun i => if i < 0 then f i else (am_wL I A J).getD (i - 0) am_d0) = fun i => (am_wL I A J).getD i (.inr (1000, [])) := by
    funext i
    rw [if_neg (Nat.not_lt_zero i), Nat.sub_zero, am_d0]
  unfold am_lx am_wd
  rw [hl, hf]
theorem e_world {f : Nat → am_C} : am_lx 0 3246 f (ni10 0 ++ ni11 81) = am_wd I0 A0 J0 := by
  rw [e_cells, e_wd]
theorem e_empty : ((0, 0, fun _ => .inr (1000, [])) : am_W) = am_lx 0 0 (fun _ => am_d0) [] := by
  refine Prod.ext rfl (Prod.ext rfl (funext fun i => ?_))
  show am_d0 = if i < 0 then am_d0 else ([] : List am_C).getD (i - 0) am_d0
  rw [if_neg (Nat.not_lt_zero i)]
  rfl
theorem law_begin : am_EV X (d + 60) mL_law 0 [.float 0, .retAddr 0, .retAddr 0, .retAddr 0] [] (0, 0, fun _ => .inr (1000, [])) = am_EV X (d + 60) mL_law 18 [.float 0, .ref 0, .ref 81, .int 0] [] (am_wd I0 A0 J0) := by
  have h1 : am_CL X (d + 60) mX10_init [.ref 0] (am_lx 0 12 (fun _ => am_d0) [am_new 10]) = some (none, am_lx 0 1825 (fun _ => am_d0) (ni10 0)) := n_X10 (d := d + 57) 0 12 _
  have h2 : am_CL X (d + 60) mX11_init [.ref 81] (am_lx 0 1876 (fun _ => am_d0) (ni10 0 ++ [am_new 11])) = some (none, am_lx 0 3246 (fun _ => am_d0) (ni10 0 ++ ni11 81)) := lx_at (t' := ni11) (c := am_new 11) (ni10 0) rfl (n_X11 (d := d + 58))
  have a1 : am_al (am_lx 0 0 (fun _ => am_d0) []) (am_N 10) (am_new 10) = am_lx 0 12 (fun _ => am_d0) [am_new 10] := lx_al
  have a2 : am_al (am_lx 0 1825 (fun _ => am_d0) (ni10 0)) (am_N 11) (am_new 11) = am_lx 0 1876 (fun _ => am_d0) (ni10 0 ++ [am_new 11]) := lx_al
  rw [e_empty, sL_law_0, a1]
  rw [show (am_lx 0 0 (fun _ => am_d0) []).1 = 0 from rfl]
  simp only [sL_law_3, sL_law_3_r]
  rw [sL_law_4, h1]
  simp only [am_rt_some, am_rt_void, am_rt_none, am_rt_ite, ↓reduceIte, if_true, if_false, and_self, true_and, and_true, true_or, or_true, Bool.false_eq_true, reduceCtorEq, sL_law_7]
  rw [sL_law_8, a2]
  rw [show (am_lx 0 1825 (fun _ => am_d0) (ni10 0)).1 = 81 from rfl]
  simp only [sL_law_11, sL_law_11_r]
  rw [sL_law_12, h2]
  simp only [am_rt_some, am_rt_void, am_rt_none, am_rt_ite, ↓reduceIte, if_true, if_false, and_self, true_and, and_true, true_or, or_true, Bool.false_eq_true, reduceCtorEq, sL_law_15, sL_law_16, sL_law_17, e_world]
set_option maxRecDepth 100000 in
theorem e_rel : RelE I0 A0 J0 := by
  refine ⟨gDef, ⟨0, by decide, rfl, rfl⟩, ⟨⟨0, by decide, rfl, rfl⟩, by decide⟩, by unfold rStr; decide, by unfold rHas in09; decide, rfl, ⟨0, 0, by decide, by decide, rfl, rfl, rfl, rfl, fun j hj => absurd hj (Nat.not_lt_zero j)⟩, ⟨0, by decide, rfl, rfl, fun j hj => absurd hj (Nat.not_lt_zero j)⟩, Or.inl ⟨rfl, rfl⟩, Or.inl ⟨rfl, rfl⟩, ?_, ?_, ?_, ?_, ⟨0, by decide, rfl, rfl, fun j hj => absurd hj (Nat.not_lt_zero j)⟩, ?_, ?_, ?_, ⟨⟨0, by decide, rfl, rfl, fun j hj => absurd hj (Nat.not_lt_zero j)⟩, ⟨0, by decide, rfl, rfl⟩, by decide⟩, ?_, ?_, ?_⟩
  · unfold rPot in09 in99; decide
  · unfold rBoo; decide
  · unfold rLed; decide
  · unfold rBoo; decide
  · unfold rPot in09 in99; decide
  · unfold rBoo; decide
  · unfold rLed; decide
  · intro k hk
    have z : ∀ c q, q ≠ 2 → I0 c q = 0 := fun c q hq => if_neg (fun y => hq y.2)
    have h1 : ∀ k, k < 6 → A0 95 k = -1 := by decide
    have h2 : ∀ k, k < 6 → A0 96 k = 0 := by decide
    exact ⟨Or.inl ⟨z _ 0 (by decide), h1 k hk⟩, ⟨0, by decide, z _ 3 (by decide), h2 k hk⟩, fun j hj => rfl⟩
  · unfold rCon; decide
  · unfold rLoa; decide
end S0
/-! act: both -/
section AD
variable {X : Nat × (Nat → Int32)} {d : Nat} {I A : TI} {J : TJ} {w : am_W}
theorem am_u2_at {I : TI} {c k : Nat} {x : Int32} : am_u2 I c k x c k = x := by simp [am_u2]
theorem am_u22 {I : TI} {c k : Nat} {x y : Int32} : am_u2 (am_u2 I c k x) c k y = am_u2 I c k y := by
  funext i j
  by_cases h1 : i = c <;> by_cases h2 : j = k <;> simp [am_u2, h1, h2]
theorem so4f : (am_out X 4).fst = 8 := rfl
theorem up_b : (List.range 8).all (fun k => (List.range 4).all (fun a => (actAt k a != 0 && ow k a == k) || (actAt k a == 0 && decide (upAt k < k) && ow k a == ow (upAt k) a))) = true := by decide +kernel
theorem up_all : ∀ k, k < 8 → ∀ a, a < 4 → (actAt k a ≠ 0 ∧ ow k a = k) ∨ (actAt k a = 0 ∧ upAt k < k ∧ ow k a = ow (upAt k) a) := by
  intro k hk a ha
  have := List.all_eq_true.mp (List.all_eq_true.mp up_b k (List.mem_range.mpr hk)) a (List.mem_range.mpr ha)
  simp only [Bool.and_eq_true, Bool.or_eq_true, beq_iff_eq, bne_iff_ne, decide_eq_true_eq] at this
  rcases this with ⟨h1, h2⟩ | ⟨⟨h1, h2⟩, h3⟩
  · exact Or.inl ⟨h1, h2⟩
  · exact Or.inr ⟨h1, h2, h3⟩
theorem act_v : ∀ k, k < 8 → ∀ a, a < 4 → (am_sA 5).getD (4 * k + a) 0 = nI (actAt k a) ∧ actAt k a < 100 := by
  intro k hk a ha
  have h : (List.range 32).all (fun i => decide ((am_sA 5).getD i 0 = nI (actN.getD i 0)) && decide (actN.getD i 0 < 100)) = true := by decide +kernel
  have := List.all_eq_true.mp h (4 * k + a) (List.mem_range.mpr (by omega))
  simp only [Bool.and_eq_true, decide_eq_true_eq] at this
  exact this
theorem abv_v : ∀ k, k < 8 → 0 < k → (am_sA 4).getD k 0 = nI (upAt k) ∧ upAt k < 8 := by
  intro k hk h0
  rcases (by omega : k = 1 ∨ k = 2 ∨ k = 3 ∨ k = 4 ∨ k = 5 ∨ k = 6 ∨ k = 7) with rfl | rfl | rfl | rfl | rfl | rfl | rfl <;> decide
theorem e4a {k a : Nat} : nI k * 4 + nI a = nI (4 * k + a) := by rw [show (4 : Int32) = nI 4 from rfl, i_mul, i_add, Nat.mul_comm]
theorem e4b {k a : Nat} : (4 : Int32) * nI k + nI a = nI (4 * k + a) := by rw [show (4 : Int32) = nI 4 from rfl, i_mul, i_add]
theorem c_bodyFrom {k a : Nat} (hk : k < 8) (ha : a < 4) : am_CL X (d + 2) mX3_bodyFrom [.int (nI k), .int (nI a)] w = some (some (.int (nI (bd k a))), w) := by
  have key : ∀ (m t c : Nat) (z0 z4 : Value), t ≤ m → t < 8 → c + t ≤ 7 → am_EV X (d + 1) mX3_bodyFrom 4 [z0, .int (nI a), .int (nI t), .int (nI c), z4] [] w = some (some (.int (nI (actAt (ow t a) a))), w) := by
    intro m
    induction m with
    | zero =>
      intro t c z0 z4 ht0 ht hc
      have t0 : t = 0 := by omega
      subst t0
      obtain ⟨v1, v2⟩ := act_v 0 ht a ha
      have hlt : (nI c < 8) = True := by rw [am_nlit (x := 8) 8 rfl (show c < 2147483648 by omega) (by decide)]; exact eq_true (by omega)
      rcases up_all 0 ht a ha with ⟨h1, h2⟩ | ⟨h1, h2, h3⟩
      · have hn : (nI (actAt 0 a) = 0) = False := eq_false (nI_ne0 (by omega) (by omega))
        rw [h2]
        simp only [sX3_bodyFrom_4, sX3_bodyFrom_5, sX3_bodyFrom_8, sX3_bodyFrom_8_f, sX3_bodyFrom_9, sX3_bodyFrom_12, sX3_bodyFrom_13, sX3_bodyFrom_16, sX3_bodyFrom_19, sX3_bodyFrom_22, sX3_bodyFrom_23, sX3_bodyFrom_24, sX3_bodyFrom_25, sX3_bodyFrom_26, sX3_bodyFrom_27, sX3_bodyFrom_27_f, sX3_bodyFrom_28, sX3_bodyFrom_30, sX3_bodyFrom_32, sX3_bodyFrom_35, sX3_bodyFrom_37, am_rt_some, am_rt_void, am_rt_none, am_rt_ite, ↓reduceIte, if_true, if_false, and_self, true_and, and_true, true_or, or_true, Bool.false_eq_true, reduceCtorEq, u45, sl4, so5, sv5, hlt, c_isKind, am_bi_eq0, nI_pos (show (0 : Nat) < 2 ^ 31 by decide), show nI 0 < 8 from by decide, not_true_eq_false, not_false_eq_true, false_and, and_false, true_and, and_true, and_self, or_self, true_or, or_true, false_or, or_false, ite_self, kEm14_m11, kEm14_m2, kEm14_m1, kEm14_0, kEm14_1, kEm14_2, kEm14_3, kEm14_4, kEm13_m11, kEm13_m2, kEm13_m1, kEm13_0, kEm13_1, kEm13_2, kEm13_3, kEm13_4, kEm12_m11, kEm12_m2, kEm12_m1, kEm12_0, kEm12_1, kEm12_2, kEm12_3, kEm12_4, kEm11_m2, kEm11_m1, kEm11_0, kEm11_1, kEm11_2, kEm11_3, kEm11_4, kEm5_m11, kEm5_m2, kEm5_m1, kEm5_0, kEm5_1, kEm5_2, kEm5_3, kEm5_4, kEm3_m11, kEm3_m2, kEm3_m1, kEm3_0, kEm3_1, kEm3_2, kEm3_3, kEm3_4, kEm2_m11, kEm2_m1, kEm2_0, kEm2_1, kEm2_2, kEm2_3, kEm2_4, kEm1_m11, kEm1_m2, kEm1_0, kEm1_1, kEm1_2, kEm1_3, kEm1_4, kE0_m11, kE0_m2, kE0_m1, kE0_1, kE0_2, kE0_3, kE0_4, kE1_m11, kE1_m2, kE1_m1, kE1_0, kE1_2, kE1_3, kE1_4, kE2_m11, kE2_m2, kE2_m1, kE2_0, kE2_1, kE2_3, kE2_4, kE3_m11, kE3_m2, kE3_m1, kE3_0, kE3_1, kE3_2, kE3_4, kE4_m11, kE4_m2, kE4_m1, kE4_0, kE4_1, kE4_2, kE4_3, kE5_m11, kE5_m2, kE5_m1, kE5_0, kE5_1, kE5_2, kE5_3, kE5_4, kE6_m11, kE6_m2, kE6_m1, kE6_0, kE6_1, kE6_2, kE6_3, kE6_4, kE7_m11, kE7_m2, kE7_m1, kE7_0, kE7_1, kE7_2, kE7_3, kE7_4, kE8_m11, kE8_m2, kE8_m1, kE8_0, kE8_1, kE8_2, kE8_3, kE8_4, kLm14_0, kLm14_1, kLm13_0, kLm13_1, kLm12_0, kLm12_1, kLm11_0, kLm11_1, kLm5_0, kLm5_1, kLm3_0, kLm3_1, kLm2_0, kLm2_1, kLm1_0, kLm1_1, kL0_0, kL0_1, kL1_0, kL1_1, kL2_0, kL2_1, kL3_0, kL3_1, kL4_0, kL4_1, kL5_0, kL5_1, kL6_0, kL6_1, kL7_0, kL7_1, kL8_0, kL8_1, e4a, am_nin (show 4 * 0 + a < 32 by omega) (show (32 : Nat) < 2147483648 by omega), am_ncl (show 4 * 0 + a < 2147483648 by omega), v1, hn]
      · exact absurd h2 (Nat.not_lt_zero _)
    | succ m ih =>
      intro t c z0 z4 ht0 ht hc
      obtain ⟨v1, v2⟩ := act_v t ht a ha
      have hlt : (nI c < 8) = True := by rw [am_nlit (x := 8) 8 rfl (show c < 2147483648 by omega) (by decide)]; exact eq_true (by omega)
      have ht8 : nI t < 8 := nI_lt (b := 8) ht (by decide)
      have ht0' : ¬ nI t < 0 := nI_pos (by omega)
      rcases up_all t ht a ha with ⟨h1, h2⟩ | ⟨h1, h2, h3⟩
      · have hn : (nI (actAt t a) = 0) = False := eq_false (nI_ne0 (by omega) (by omega))
        rw [h2]
        simp only [sX3_bodyFrom_4, sX3_bodyFrom_5, sX3_bodyFrom_8, sX3_bodyFrom_8_f, sX3_bodyFrom_9, sX3_bodyFrom_12, sX3_bodyFrom_13, sX3_bodyFrom_16, sX3_bodyFrom_19, sX3_bodyFrom_22, sX3_bodyFrom_23, sX3_bodyFrom_24, sX3_bodyFrom_25, sX3_bodyFrom_26, sX3_bodyFrom_27, sX3_bodyFrom_27_f, sX3_bodyFrom_28, sX3_bodyFrom_30, sX3_bodyFrom_32, sX3_bodyFrom_35, sX3_bodyFrom_37, am_rt_some, am_rt_void, am_rt_none, am_rt_ite, ↓reduceIte, if_true, if_false, and_self, true_and, and_true, true_or, or_true, Bool.false_eq_true, reduceCtorEq, u45, sl4, so5, sv5, hlt, c_isKind, am_bi_eq0, ht0', ht8, not_true_eq_false, not_false_eq_true, false_and, and_false, true_and, and_true, and_self, or_self, true_or, or_true, false_or, or_false, ite_self, kEm14_m11, kEm14_m2, kEm14_m1, kEm14_0, kEm14_1, kEm14_2, kEm14_3, kEm14_4, kEm13_m11, kEm13_m2, kEm13_m1, kEm13_0, kEm13_1, kEm13_2, kEm13_3, kEm13_4, kEm12_m11, kEm12_m2, kEm12_m1, kEm12_0, kEm12_1, kEm12_2, kEm12_3, kEm12_4, kEm11_m2, kEm11_m1, kEm11_0, kEm11_1, kEm11_2, kEm11_3, kEm11_4, kEm5_m11, kEm5_m2, kEm5_m1, kEm5_0, kEm5_1, kEm5_2, kEm5_3, kEm5_4, kEm3_m11, kEm3_m2, kEm3_m1, kEm3_0, kEm3_1, kEm3_2, kEm3_3, kEm3_4, kEm2_m11, kEm2_m1, kEm2_0, kEm2_1, kEm2_2, kEm2_3, kEm2_4, kEm1_m11, kEm1_m2, kEm1_0, kEm1_1, kEm1_2, kEm1_3, kEm1_4, kE0_m11, kE0_m2, kE0_m1, kE0_1, kE0_2, kE0_3, kE0_4, kE1_m11, kE1_m2, kE1_m1, kE1_0, kE1_2, kE1_3, kE1_4, kE2_m11, kE2_m2, kE2_m1, kE2_0, kE2_1, kE2_3, kE2_4, kE3_m11, kE3_m2, kE3_m1, kE3_0, kE3_1, kE3_2, kE3_4, kE4_m11, kE4_m2, kE4_m1, kE4_0, kE4_1, kE4_2, kE4_3, kE5_m11, kE5_m2, kE5_m1, kE5_0, kE5_1, kE5_2, kE5_3, kE5_4, kE6_m11, kE6_m2, kE6_m1, kE6_0, kE6_1, kE6_2, kE6_3, kE6_4, kE7_m11, kE7_m2, kE7_m1, kE7_0, kE7_1, kE7_2, kE7_3, kE7_4, kE8_m11, kE8_m2, kE8_m1, kE8_0, kE8_1, kE8_2, kE8_3, kE8_4, kLm14_0, kLm14_1, kLm13_0, kLm13_1, kLm12_0, kLm12_1, kLm11_0, kLm11_1, kLm5_0, kLm5_1, kLm3_0, kLm3_1, kLm2_0, kLm2_1, kLm1_0, kLm1_1, kL0_0, kL0_1, kL1_0, kL1_1, kL2_0, kL2_1, kL3_0, kL3_1, kL4_0, kL4_1, kL5_0, kL5_1, kL6_0, kL6_1, kL7_0, kL7_1, kL8_0, kL8_1, e4a, am_nin (show 4 * t + a < 32 by omega) (show (32 : Nat) < 2147483648 by omega), am_ncl (show 4 * t + a < 2147483648 by omega), v1, hn]
      · have hn : (nI (actAt t a) = 0) = True := by rw [h1]; decide
        obtain ⟨y1, y2⟩ := abv_v t ht (by omega)
        rw [sX3_bodyFrom_4]
        simp only [sX3_bodyFrom_5, sX3_bodyFrom_8, sX3_bodyFrom_8_f, sX3_bodyFrom_9, sX3_bodyFrom_12, sX3_bodyFrom_13, sX3_bodyFrom_16, sX3_bodyFrom_19, sX3_bodyFrom_22, sX3_bodyFrom_23, sX3_bodyFrom_24, sX3_bodyFrom_25, sX3_bodyFrom_26, sX3_bodyFrom_27, sX3_bodyFrom_27_f, sX3_bodyFrom_28, sX3_bodyFrom_30, sX3_bodyFrom_32, sX3_bodyFrom_35, sX3_bodyFrom_37, sX3_bodyFrom_38, sX3_bodyFrom_41, sX3_bodyFrom_42, sX3_bodyFrom_42_f, sX3_bodyFrom_43, sX3_bodyFrom_44, sX3_bodyFrom_47, am_rt_some, am_rt_void, am_rt_none, am_rt_ite, ↓reduceIte, if_true, if_false, and_self, true_and, and_true, true_or, or_true, Bool.false_eq_true, reduceCtorEq, u45, so4f, show Int32.ofNat 8 = 8 from rfl, so5, sv5, sv4, hlt, c_isKind, am_bi_eq0, ht0', ht8, not_true_eq_false, not_false_eq_true, false_and, and_false, true_and, and_true, and_self, or_self, true_or, or_true, false_or, or_false, ite_self, kEm14_m11, kEm14_m2, kEm14_m1, kEm14_0, kEm14_1, kEm14_2, kEm14_3, kEm14_4, kEm13_m11, kEm13_m2, kEm13_m1, kEm13_0, kEm13_1, kEm13_2, kEm13_3, kEm13_4, kEm12_m11, kEm12_m2, kEm12_m1, kEm12_0, kEm12_1, kEm12_2, kEm12_3, kEm12_4, kEm11_m2, kEm11_m1, kEm11_0, kEm11_1, kEm11_2, kEm11_3, kEm11_4, kEm5_m11, kEm5_m2, kEm5_m1, kEm5_0, kEm5_1, kEm5_2, kEm5_3, kEm5_4, kEm3_m11, kEm3_m2, kEm3_m1, kEm3_0, kEm3_1, kEm3_2, kEm3_3, kEm3_4, kEm2_m11, kEm2_m1, kEm2_0, kEm2_1, kEm2_2, kEm2_3, kEm2_4, kEm1_m11, kEm1_m2, kEm1_0, kEm1_1, kEm1_2, kEm1_3, kEm1_4, kE0_m11, kE0_m2, kE0_m1, kE0_1, kE0_2, kE0_3, kE0_4, kE1_m11, kE1_m2, kE1_m1, kE1_0, kE1_2, kE1_3, kE1_4, kE2_m11, kE2_m2, kE2_m1, kE2_0, kE2_1, kE2_3, kE2_4, kE3_m11, kE3_m2, kE3_m1, kE3_0, kE3_1, kE3_2, kE3_4, kE4_m11, kE4_m2, kE4_m1, kE4_0, kE4_1, kE4_2, kE4_3, kE5_m11, kE5_m2, kE5_m1, kE5_0, kE5_1, kE5_2, kE5_3, kE5_4, kE6_m11, kE6_m2, kE6_m1, kE6_0, kE6_1, kE6_2, kE6_3, kE6_4, kE7_m11, kE7_m2, kE7_m1, kE7_0, kE7_1, kE7_2, kE7_3, kE7_4, kE8_m11, kE8_m2, kE8_m1, kE8_0, kE8_1, kE8_2, kE8_3, kE8_4, kLm14_0, kLm14_1, kLm13_0, kLm13_1, kLm12_0, kLm12_1, kLm11_0, kLm11_1, kLm5_0, kLm5_1, kLm3_0, kLm3_1, kLm2_0, kLm2_1, kLm1_0, kLm1_1, kL0_0, kL0_1, kL1_0, kL1_1, kL2_0, kL2_1, kL3_0, kL3_1, kL4_0, kL4_1, kL5_0, kL5_1, kL6_0, kL6_1, kL7_0, kL7_1, kL8_0, kL8_1, e4a, am_nin (show 4 * t + a < 32 by omega) (show (32 : Nat) < 2147483648 by omega), am_ncl (show 4 * t + a < 2147483648 by omega), v1, hn, am_nin ht (show (8 : Nat) < 2147483648 by omega), am_ncl (show t < 2147483648 by omega), y1, am_n1]
        rw [h3]
        exact ih (upAt t) (c + 1) _ _ (by omega) y2 (by omega)
  simp only [eX3_bodyFrom, sX3_bodyFrom_0, sX3_bodyFrom_1, sX3_bodyFrom_2, sX3_bodyFrom_3]
  exact key 8 k 0 _ _ (by omega) hk (by omega)
theorem c_began {r : Nat} {s : AS} (hs : s.1 ≤ 1000) : am_CL X (d + 1) mX3_began [.ref 65, .int (nI r)] (am_wd (am_u2 I 65 3 (nI s.1)) (am_u A 67 s.2) J) = some (none, am_wd (am_u2 I 65 3 (nI (beg r s).1)) (am_u A 67 (beg r s).2) J) := by
  have e : (nI s.1 < 24) = (s.1 < 24) := am_nlit (x := 24) 24 rfl (by omega) (by decide)
  simp only [eX3_began, sX3_began_0, sX3_began_1, sX3_began_4, sX3_began_6, sX3_began_9, sX3_began_10, sX3_began_13, sX3_began_14, sX3_began_17, sX3_began_18, sX3_began_19, sX3_began_20, sX3_began_20_r, sX3_began_21, sX3_began_24, sX3_began_25, sX3_began_26, sX3_began_29, wo_65, wf_65_0, wv_65_0, wf_65_1, wv_65_1, wp_65_1, wf_65_2, wv_65_2, wf_65_3, wv_65_3, wp_65_3, wf_65_4, wv_65_4, wp_65_4, wf_65_5, wv_65_5, wp_65_5, wi_67, wg_67, ws_67, ww_67, wl_67, wn_67, am_rt_some, am_rt_void, am_rt_none, am_rt_ite, ↓reduceIte, if_true, if_false, and_self, true_and, and_true, true_or, or_true, Bool.false_eq_true, reduceCtorEq, am_u2_at, am_u22, e]
  by_cases q : s.1 < 24
  · simp only [q, if_true, am_nin q (show (24 : Nat) < 2147483648 by omega), am_ncl (show s.1 < 2147483648 by omega), am_n1, am_u_at, am_uu, beg, sX3_began_19, sX3_began_20, sX3_began_20_r, sX3_began_21, sX3_began_24, sX3_began_25, sX3_began_26, sX3_began_29, wo_65, wf_65_0, wv_65_0, wf_65_1, wv_65_1, wp_65_1, wf_65_2, wv_65_2, wf_65_3, wv_65_3, wp_65_3, wf_65_4, wv_65_4, wp_65_4, wf_65_5, wv_65_5, wp_65_5, am_rt_some, am_rt_void, am_rt_none, am_rt_ite, ↓reduceIte, if_true, if_false, and_self, true_and, and_true, true_or, or_true, Bool.false_eq_true, reduceCtorEq, am_u2_at, am_u22]
  · simp only [q, if_false, am_n1, beg]

theorem c_run {kd : Nat} (hkd : kd < 8) {n : Int32} (e4 : I 65 4 = n) (e5 : I 65 5 = nI kd) : ∀ (f k a dep : Nat) (x : Int32) (s : AS), k < 8 → a < 4 → cnF kd f k a < 1000 → s.1 + cnF kd f k a ≤ 1000 → dep + f ≤ 40 → am_CL X (d + f + 2) mX3_run [.ref 65, .int (nI k), .int (nI a), .int x, .int (nI dep)] (am_wd (am_u2 I 65 3 (nI s.1)) (am_u A 67 s.2) J) = some (some (.int (rnF kd n f k a x s).1), am_wd (am_u2 I 65 3 (nI (rnF kd n f k a x s).2.1)) (am_u A 67 (rnF kd n f k a x s).2.2) J) := by
  intro f
  induction f with
  | zero => intro k a dep x s hk ha h; exact absurd h (Nat.lt_irrefl 1000)
  | succ f ih =>
    intro k a dep x s hk ha hh hs hd
    have hdp : (40 < nI dep) = False := eq_false (nI_nlt (a := 40) (b := dep) (by omega) (by omega))
    have f4 : ∀ y, am_u2 I 65 3 y 65 4 = n := fun y => e4
    have f5 : ∀ y, am_u2 I 65 3 y 65 5 = nI kd := fun y => e5
    rw [show d + (f + 1) + 2 = d + f + 2 + 1 by omega]
    simp only [eX3_run, sX3_run_0, sX3_run_2, sX3_run_4, sX3_run_7, sX3_run_8, sX3_run_9, sX3_run_11, sX3_run_12, sX3_run_13, sX3_run_15, sX3_run_16, sX3_run_17, sX3_run_20, sX3_run_22, sX3_run_23, sX3_run_25, sX3_run_28, wo_65, wf_65_0, wv_65_0, wf_65_1, wv_65_1, wp_65_1, wf_65_2, wv_65_2, wf_65_3, wv_65_3, wp_65_3, wf_65_4, wv_65_4, wp_65_4, wf_65_5, wv_65_5, wp_65_5, am_rt_some, am_rt_void, am_rt_none, am_rt_ite, ↓reduceIte, if_true, if_false, and_self, true_and, and_true, true_or, or_true, Bool.false_eq_true, reduceCtorEq, hdp, c_bodyFrom hk ha, c_began (show s.1 ≤ 1000 by omega), am_n1]
    rcases (bd_all k hk a ha).2 with h | h | h | h | ⟨h, hu⟩ | ⟨h, hu⟩ | ⟨h, hu⟩ | ⟨h, hu⟩ | ⟨h, hu⟩ | ⟨h, hu⟩ | ⟨h, hu⟩ | ⟨h, hu⟩ | ⟨h, hu⟩
    · have e := cn_1 (kd := kd) (f := f) h
      rw [e] at hh hs
      rw [rn_1 h, h]
      rw [show (nI 1 : Int32) = 1 from rfl, sX3_run_30_c1]
      simp only [sX3_run_144, sX3_run_145, sX3_run_146, sX3_run_149, sX3_run_150, wo_65, wf_65_0, wv_65_0, wf_65_1, wv_65_1, wp_65_1, wf_65_2, wv_65_2, wf_65_3, wv_65_3, wp_65_3, wf_65_4, wv_65_4, wp_65_4, wf_65_5, wv_65_5, wp_65_5, am_rt_some, am_rt_void, am_rt_none, am_rt_ite, ↓reduceIte, if_true, if_false, and_self, true_and, and_true, true_or, or_true, Bool.false_eq_true, reduceCtorEq, f4, f5, am_n1]
    · have e := cn_2 (kd := kd) (f := f) h
      rw [e] at hh hs
      rw [rn_2 h, h]
      rw [show (nI 2 : Int32) = 2 from rfl, sX3_run_30_c2]
      have c1 := ih kd 1 (dep + 1) x (beg 2 s) (by omega) (by omega) (by omega) (by show s.1 + 1 + _ ≤ 1000; omega) (by omega)
      rw [show nI 1 = (1 : Int32) from rfl] at c1
      have n1 := rn_cn kd hkd n f kd 1 x (beg 2 s) (by omega) (by omega) (by omega)
      have n0 : (beg 2 s).1 = s.1 + 1 := rfl
      have c2 := ih kd 2 (dep + 1) 1 (rnF kd n f kd 1 x (beg 2 s)).2 (by omega) (by omega) (by omega) (by omega) (by omega)
      rw [show nI 2 = (2 : Int32) from rfl] at c2
      simp only [sX3_run_151, sX3_run_152, sX3_run_153, sX3_run_156, sX3_run_157, sX3_run_158, sX3_run_160, sX3_run_163, sX3_run_164, sX3_run_165, sX3_run_168, sX3_run_169, sX3_run_170, sX3_run_172, sX3_run_175, sX3_run_176, wo_65, wf_65_0, wv_65_0, wf_65_1, wv_65_1, wp_65_1, wf_65_2, wv_65_2, wf_65_3, wv_65_3, wp_65_3, wf_65_4, wv_65_4, wp_65_4, wf_65_5, wv_65_5, wp_65_5, am_rt_some, am_rt_void, am_rt_none, am_rt_ite, ↓reduceIte, if_true, if_false, and_self, true_and, and_true, true_or, or_true, Bool.false_eq_true, reduceCtorEq, f4, f5, am_n1, c1, c2]
    · have e := cn_10 (kd := kd) (f := f) h
      rw [e] at hh hs
      rw [rn_10 h, h]
      rw [show (nI 10 : Int32) = 10 from rfl, sX3_run_30_c10]
      have c1 := ih kd 0 (dep + 1) x (beg 10 s) (by omega) (by omega) (by omega) (by show s.1 + 1 + _ ≤ 1000; omega) (by omega)
      rw [show nI 0 = (0 : Int32) from rfl] at c1
      simp only [sX3_run_177, sX3_run_178, sX3_run_179, sX3_run_182, sX3_run_183, sX3_run_184, sX3_run_186, sX3_run_189, sX3_run_190, sX3_run_191, wo_65, wf_65_0, wv_65_0, wf_65_1, wv_65_1, wp_65_1, wf_65_2, wv_65_2, wf_65_3, wv_65_3, wp_65_3, wf_65_4, wv_65_4, wp_65_4, wf_65_5, wv_65_5, wp_65_5, am_rt_some, am_rt_void, am_rt_none, am_rt_ite, ↓reduceIte, if_true, if_false, and_self, true_and, and_true, true_or, or_true, Bool.false_eq_true, reduceCtorEq, f4, f5, am_n1, c1]
    · have e := cn_11 (kd := kd) (f := f) h
      rw [e] at hh hs
      rw [rn_11 h, h]
      rw [show (nI 11 : Int32) = 11 from rfl, sX3_run_30_c11]
      simp only [sX3_run_192, sX3_run_193, sX3_run_194, sX3_run_197, sX3_run_198, wo_65, wf_65_0, wv_65_0, wf_65_1, wv_65_1, wp_65_1, wf_65_2, wv_65_2, wf_65_3, wv_65_3, wp_65_3, wf_65_4, wv_65_4, wp_65_4, wf_65_5, wv_65_5, wp_65_5, am_rt_some, am_rt_void, am_rt_none, am_rt_ite, ↓reduceIte, if_true, if_false, and_self, true_and, and_true, true_or, or_true, Bool.false_eq_true, reduceCtorEq, f4, f5, am_n1]
    · have e := cn_20 (kd := kd) (f := f) h
      rw [e] at hh hs
      rw [rn_20 h, h]
      rw [show (nI 20 : Int32) = 20 from rfl, sX3_run_30_c20]
      have c1 := ih 0 0 (dep + 1) x (beg 20 s) (by omega) (by omega) (by omega) (by show s.1 + 1 + _ ≤ 1000; omega) (by omega)
      rw [show nI 0 = (0 : Int32) from rfl] at c1
      simp only [sX3_run_199, sX3_run_200, sX3_run_201, sX3_run_202, sX3_run_203, sX3_run_205, sX3_run_208, sX3_run_209, sX3_run_210, wo_65, wf_65_0, wv_65_0, wf_65_1, wv_65_1, wp_65_1, wf_65_2, wv_65_2, wf_65_3, wv_65_3, wp_65_3, wf_65_4, wv_65_4, wp_65_4, wf_65_5, wv_65_5, wp_65_5, am_rt_some, am_rt_void, am_rt_none, am_rt_ite, ↓reduceIte, if_true, if_false, and_self, true_and, and_true, true_or, or_true, Bool.false_eq_true, reduceCtorEq, f4, f5, am_n1, c1]
    · have e := cn_30 (kd := kd) (f := f) h
      rw [e] at hh hs
      rw [rn_30 h, h]
      rw [show (nI 30 : Int32) = 30 from rfl, sX3_run_30_c30]
      have c1 := ih 0 1 (dep + 1) x (beg 30 s) (by omega) (by omega) (by omega) (by show s.1 + 1 + _ ≤ 1000; omega) (by omega)
      rw [show nI 0 = (0 : Int32) from rfl] at c1
      rw [show nI 1 = (1 : Int32) from rfl] at c1
      simp only [sX3_run_211, sX3_run_212, sX3_run_213, sX3_run_214, sX3_run_215, sX3_run_217, sX3_run_220, sX3_run_221, wo_65, wf_65_0, wv_65_0, wf_65_1, wv_65_1, wp_65_1, wf_65_2, wv_65_2, wf_65_3, wv_65_3, wp_65_3, wf_65_4, wv_65_4, wp_65_4, wf_65_5, wv_65_5, wp_65_5, am_rt_some, am_rt_void, am_rt_none, am_rt_ite, ↓reduceIte, if_true, if_false, and_self, true_and, and_true, true_or, or_true, Bool.false_eq_true, reduceCtorEq, f4, f5, am_n1, c1]
    · have e := cn_40 (kd := kd) (f := f) h
      rw [e] at hh hs
      rw [rn_40 h, h]
      rw [show (nI 40 : Int32) = 40 from rfl, sX3_run_30_c40]
      have c1 := ih 2 2 (dep + 1) x (beg 40 s) (by omega) (by omega) (by omega) (by show s.1 + 1 + _ ≤ 1000; omega) (by omega)
      rw [show nI 2 = (2 : Int32) from rfl] at c1
      simp only [sX3_run_222, sX3_run_223, sX3_run_224, sX3_run_225, sX3_run_226, sX3_run_228, sX3_run_231, sX3_run_232, sX3_run_233, wo_65, wf_65_0, wv_65_0, wf_65_1, wv_65_1, wp_65_1, wf_65_2, wv_65_2, wf_65_3, wv_65_3, wp_65_3, wf_65_4, wv_65_4, wp_65_4, wf_65_5, wv_65_5, wp_65_5, am_rt_some, am_rt_void, am_rt_none, am_rt_ite, ↓reduceIte, if_true, if_false, and_self, true_and, and_true, true_or, or_true, Bool.false_eq_true, reduceCtorEq, f4, f5, am_n1, c1]
    · have e := cn_41 (kd := kd) (f := f) h
      rw [e] at hh hs
      rw [rn_41 h, h]
      rw [show (nI 41 : Int32) = 41 from rfl, sX3_run_30_c41]
      have c1 := ih 2 1 (dep + 1) (x + 1) (beg 41 s) (by omega) (by omega) (by omega) (by show s.1 + 1 + _ ≤ 1000; omega) (by omega)
      rw [show nI 1 = (1 : Int32) from rfl] at c1
      rw [show nI 2 = (2 : Int32) from rfl] at c1
      simp only [sX3_run_234, sX3_run_235, sX3_run_236, sX3_run_237, sX3_run_238, sX3_run_239, sX3_run_240, sX3_run_242, sX3_run_245, wo_65, wf_65_0, wv_65_0, wf_65_1, wv_65_1, wp_65_1, wf_65_2, wv_65_2, wf_65_3, wv_65_3, wp_65_3, wf_65_4, wv_65_4, wp_65_4, wf_65_5, wv_65_5, wp_65_5, am_rt_some, am_rt_void, am_rt_none, am_rt_ite, ↓reduceIte, if_true, if_false, and_self, true_and, and_true, true_or, or_true, Bool.false_eq_true, reduceCtorEq, f4, f5, am_n1, c1]
    · have e := cn_50 (kd := kd) (f := f) h
      rw [e] at hh hs
      rw [rn_50 h, h]
      rw [show (nI 50 : Int32) = 50 from rfl, sX3_run_30_c50]
      have c1 := ih 1 2 (dep + 1) x (beg 50 s) (by omega) (by omega) (by omega) (by show s.1 + 1 + _ ≤ 1000; omega) (by omega)
      rw [show nI 1 = (1 : Int32) from rfl] at c1
      rw [show nI 2 = (2 : Int32) from rfl] at c1
      have n1 := rn_cn kd hkd n f 1 2 x (beg 50 s) (by omega) (by omega) (by omega)
      have n0 : (beg 50 s).1 = s.1 + 1 := rfl
      have c2 := ih kd 0 (dep + 1) 2 (rnF kd n f 1 2 x (beg 50 s)).2 (by omega) (by omega) (by omega) (by omega) (by omega)
      rw [show nI 0 = (0 : Int32) from rfl] at c2
      simp only [sX3_run_246, sX3_run_247, sX3_run_248, sX3_run_249, sX3_run_250, sX3_run_252, sX3_run_255, sX3_run_256, sX3_run_257, sX3_run_260, sX3_run_261, sX3_run_262, sX3_run_264, sX3_run_267, sX3_run_268, wo_65, wf_65_0, wv_65_0, wf_65_1, wv_65_1, wp_65_1, wf_65_2, wv_65_2, wf_65_3, wv_65_3, wp_65_3, wf_65_4, wv_65_4, wp_65_4, wf_65_5, wv_65_5, wp_65_5, am_rt_some, am_rt_void, am_rt_none, am_rt_ite, ↓reduceIte, if_true, if_false, and_self, true_and, and_true, true_or, or_true, Bool.false_eq_true, reduceCtorEq, f4, f5, am_n1, c1, c2]
    · have e := cn_60 (kd := kd) (f := f) h
      rw [e] at hh hs
      rw [rn_60 h, h]
      rw [show (nI 60 : Int32) = 60 from rfl, sX3_run_30_c60]
      have c1 := ih 3 3 (dep + 1) x (beg 60 s) (by omega) (by omega) (by omega) (by show s.1 + 1 + _ ≤ 1000; omega) (by omega)
      rw [show nI 3 = (3 : Int32) from rfl] at c1
      simp only [sX3_run_269, sX3_run_270, sX3_run_271, sX3_run_272, sX3_run_273, sX3_run_275, sX3_run_278, sX3_run_279, sX3_run_280, wo_65, wf_65_0, wv_65_0, wf_65_1, wv_65_1, wp_65_1, wf_65_2, wv_65_2, wf_65_3, wv_65_3, wp_65_3, wf_65_4, wv_65_4, wp_65_4, wf_65_5, wv_65_5, wp_65_5, am_rt_some, am_rt_void, am_rt_none, am_rt_ite, ↓reduceIte, if_true, if_false, and_self, true_and, and_true, true_or, or_true, Bool.false_eq_true, reduceCtorEq, f4, f5, am_n1, c1]
    · have e := cn_70 (kd := kd) (f := f) h
      rw [e] at hh hs
      rw [rn_70 h, h]
      rw [show (nI 70 : Int32) = 70 from rfl, sX3_run_30_c70]
      have c1 := ih 0 0 (dep + 1) x (beg 70 s) (by omega) (by omega) (by omega) (by show s.1 + 1 + _ ≤ 1000; omega) (by omega)
      rw [show nI 0 = (0 : Int32) from rfl] at c1
      simp only [sX3_run_281, sX3_run_282, sX3_run_283, sX3_run_284, sX3_run_285, sX3_run_287, sX3_run_290, sX3_run_291, sX3_run_292, wo_65, wf_65_0, wv_65_0, wf_65_1, wv_65_1, wp_65_1, wf_65_2, wv_65_2, wf_65_3, wv_65_3, wp_65_3, wf_65_4, wv_65_4, wp_65_4, wf_65_5, wv_65_5, wp_65_5, am_rt_some, am_rt_void, am_rt_none, am_rt_ite, ↓reduceIte, if_true, if_false, and_self, true_and, and_true, true_or, or_true, Bool.false_eq_true, reduceCtorEq, f4, f5, am_n1, c1]
    · have e := cn_80 (kd := kd) (f := f) h
      rw [e] at hh hs
      rw [rn_80 h, h]
      rw [show (nI 80 : Int32) = 80 from rfl, sX3_run_30_c80]
      have c1 := ih 4 1 (dep + 1) x (beg 80 s) (by omega) (by omega) (by omega) (by show s.1 + 1 + _ ≤ 1000; omega) (by omega)
      rw [show nI 1 = (1 : Int32) from rfl] at c1
      rw [show nI 4 = (4 : Int32) from rfl] at c1
      have n1 := rn_cn kd hkd n f 4 1 x (beg 80 s) (by omega) (by omega) (by omega)
      have n0 : (beg 80 s).1 = s.1 + 1 := rfl
      have c2 := ih kd 2 (dep + 1) 2 (rnF kd n f 4 1 x (beg 80 s)).2 (by omega) (by omega) (by omega) (by omega) (by omega)
      rw [show nI 2 = (2 : Int32) from rfl] at c2
      simp only [sX3_run_293, sX3_run_294, sX3_run_295, sX3_run_296, sX3_run_297, sX3_run_299, sX3_run_302, sX3_run_303, sX3_run_304, sX3_run_307, sX3_run_308, sX3_run_309, sX3_run_311, sX3_run_314, sX3_run_315, wo_65, wf_65_0, wv_65_0, wf_65_1, wv_65_1, wp_65_1, wf_65_2, wv_65_2, wf_65_3, wv_65_3, wp_65_3, wf_65_4, wv_65_4, wp_65_4, wf_65_5, wv_65_5, wp_65_5, am_rt_some, am_rt_void, am_rt_none, am_rt_ite, ↓reduceIte, if_true, if_false, and_self, true_and, and_true, true_or, or_true, Bool.false_eq_true, reduceCtorEq, f4, f5, am_n1, c1, c2]
    · have e := cn_81 (kd := kd) (f := f) h
      rw [e] at hh hs
      rw [rn_81 h, h]
      rw [show (nI 81 : Int32) = 81 from rfl, sX3_run_30_c81]
      have c1 := ih 4 3 (dep + 1) x (beg 81 s) (by omega) (by omega) (by omega) (by show s.1 + 1 + _ ≤ 1000; omega) (by omega)
      rw [show nI 3 = (3 : Int32) from rfl] at c1
      rw [show nI 4 = (4 : Int32) from rfl] at c1
      simp only [sX3_run_316, sX3_run_317, sX3_run_318, sX3_run_319, sX3_run_320, sX3_run_322, sX3_run_325, sX3_run_326, sX3_run_327, wo_65, wf_65_0, wv_65_0, wf_65_1, wv_65_1, wp_65_1, wf_65_2, wv_65_2, wf_65_3, wv_65_3, wp_65_3, wf_65_4, wv_65_4, wp_65_4, wf_65_5, wv_65_5, wp_65_5, am_rt_some, am_rt_void, am_rt_none, am_rt_ite, ↓reduceIte, if_true, if_false, and_self, true_and, and_true, true_or, or_true, Bool.false_eq_true, reduceCtorEq, f4, f5, am_n1, c1]

end AD

/-! SOUPS; what is ready -/
section SO
variable {X : Nat × (Nat → Int32)} {d : Nat} {I A : TI} {J : TJ} {w : am_W}
theorem pl5 {fr ln : Nat} (hl : ln ≤ 60) (hf : fr ≤ 60) : (¬ nI fr < 0 ∧ ¬ (5 : Int32) < 0 ∧ ¬ nI ln - nI fr < 5) = (fr + 5 ≤ ln) := by
  have e1 : (nI ln - nI fr).toInt = (ln : Int) - fr := by
    rw [Int32.toInt_sub, nI_toInt (show ln < 2 ^ 31 by omega), nI_toInt (show fr < 2 ^ 31 by omega)]
    exact Int.bmod_eq_of_le (by omega) (by omega)
  have e2 : (nI ln - nI fr < 5) = ((ln : Int) - fr < 5) := by
    rw [← e1]
    exact propext Int32.lt_iff_toInt_lt
  rw [e2]
  refine propext ⟨fun h => by omega, fun h => ⟨nI_pos (by omega), by decide, by omega⟩⟩
theorem sOk_5 {ln fr : Nat} {b : Nat → Int32} (h : ¬ fr + 5 ≤ ln) : sOk ln b fr 5 = false := by
  cases q : sOk ln b fr 5 with
  | false => rfl
  | true =>
    have := (sOk_t q 4 (by decide)).1
    omega
theorem c_giveSoup14 {k ln fr : Nat} {b : Nat → Int32} (h : ShB I A J k ln b) (hf : fr + 5 ≤ 5) : am_T (am_CL X (d + 3) mX8_giveSoup [.ref (69 + 2 * k), .int (nI fr), .ref 14] (am_wd I A J)) (oI (if sOk ln b fr 5 = true then 1 else 0) fun I' A' J' => Fr [] [14] [] I A J I' A' J' ∧ (∀ j, j < fr → A' 14 j = A 14 j) ∧ (sOk ln b fr 5 = true → ∀ i, i < 5 → A' 14 (fr + i) = b (fr + i))) := by
  have hk := h.1
  have l1 := h.2.1
  have key : ∀ (m t : Nat) (A1 : TI) (z4 : Value), t + m = 5 → Fr [] [14] [] I A J I A1 J → fr + 5 ≤ ln → sOk ln b fr t = true → (∀ j, j < fr → A1 14 j = A 14 j) → (∀ i, i < t → A1 14 (fr + i) = b (fr + i)) → am_T (am_EV X (d + 2) mX8_giveSoup 21 [.ref (69 + 2 * k), .int (nI fr), .ref 14, .int (nI (fr + t)), z4] [] (am_wd I A1 J)) (oI (if sOk ln b fr 5 = true then 1 else 0) fun I' A' J' => Fr [] [14] [] I A J I' A' J' ∧ (∀ j, j < fr → A' 14 j = A 14 j) ∧ (sOk ln b fr 5 = true → ∀ i, i < 5 → A' 14 (fr + i) = b (fr + i))) := by
    intro m
    induction m with
    | zero =>
      intro t A1 z4 ht f hl g0 g1 g2
      have t5 : t = 5 := by omega
      subst t5
      have e5 : nI fr + 5 = nI (fr + 5) := i_add fr 5
      simp only [sX8_giveSoup_21, sX8_giveSoup_22, sX8_giveSoup_23, sX8_giveSoup_24, sX8_giveSoup_25, sX8_giveSoup_60, sX8_giveSoup_61, am_rt_some, am_rt_void, am_rt_none, am_rt_ite, ↓reduceIte, if_true, if_false, and_self, true_and, and_true, true_or, or_true, Bool.false_eq_true, reduceCtorEq, e5, am_nlt (show fr + 5 < 2147483648 by omega) (show fr + 5 < 2147483648 by omega), Nat.lt_irrefl, g0]
      exact am_T.ri ⟨f, g1, fun _ => g2⟩
    | succ m ih =>
      intro t A1 z4 ht f hl g0 g1 g2
      have hB : ShB I A1 J k ln b := h.fr f (by decide) (by decide) (by decide)
      have e5 : nI fr + 5 = nI (fr + 5) := i_add fr 5
      have hlt : (fr + t < fr + 5) = True := eq_true (by omega)
      have mo : sOk ln b fr (t + 1) = decide (fr + t < ln ∧ ¬ b (fr + t) < 0 ∧ ¬ 99 < b (fr + t)) := by
        show (sOk ln b fr t && _) = _
        rw [g0, Bool.true_and]
      have stop : sOk ln b fr (t + 1) = false → am_T (some (some (.int 0), am_wd I A1 J)) (oI (if sOk ln b fr 5 = true then 1 else 0) fun I' A' J' => Fr [] [14] [] I A J I' A' J' ∧ (∀ j, j < fr → A' 14 j = A 14 j) ∧ (sOk ln b fr 5 = true → ∀ i, i < 5 → A' 14 (fr + i) = b (fr + i))) := by
        intro q
        have q5 := sOk_f q 5 (by omega)
        rw [q5]
        exact am_T.ri ⟨f, g1, fun y => absurd y (by decide)⟩
      rw [sX8_giveSoup_21]
      simp only [sX8_giveSoup_22, sX8_giveSoup_23, sX8_giveSoup_24, sX8_giveSoup_25, sX8_giveSoup_28, sX8_giveSoup_29, sX8_giveSoup_30, sX8_giveSoup_33, sX8_giveSoup_35, sX8_giveSoup_37, am_rt_some, am_rt_void, am_rt_none, am_rt_ite, ↓reduceIte, if_true, if_false, and_self, true_and, and_true, true_or, or_true, Bool.false_eq_true, reduceCtorEq, shO hk, shF0 hk, shF1 hk, shF2 hk, shF3 hk, shF4 hk, shV0 hk, shV1 hk, shV2 hk, shV3 hk, shV4 hk, shP0 hk, shP1 hk, shP2 hk, shP3 hk, elI hk, elG hk, elS hk, elW hk, shAi hk, shIn hk, e5, am_nlt (show fr + t < 2147483648 by omega) (show fr + 5 < 2147483648 by omega), hlt, c_byteAt' hB (show fr + t < ln by omega)]
      by_cases q2 : b (fr + t) < 0
      · simp only [q2, if_true, sX8_giveSoup_47, sX8_giveSoup_48, am_rt_some, am_rt_void, am_rt_none, am_rt_ite, ↓reduceIte, if_true, if_false, and_self, true_and, and_true, true_or, or_true, Bool.false_eq_true, reduceCtorEq]
        exact stop (by rw [mo]; simp [q2])
      · simp only [q2, if_false, sX8_giveSoup_40, sX8_giveSoup_42, sX8_giveSoup_44]
        by_cases q3 : 99 < b (fr + t)
        · simp only [q3, if_true, sX8_giveSoup_47, sX8_giveSoup_48, am_rt_some, am_rt_void, am_rt_none, am_rt_ite, ↓reduceIte, if_true, if_false, and_self, true_and, and_true, true_or, or_true, Bool.false_eq_true, reduceCtorEq]
          exact stop (by rw [mo]; simp [q3])
        · simp only [q3, if_false, sX8_giveSoup_49, sX8_giveSoup_50, sX8_giveSoup_51, sX8_giveSoup_53, sX8_giveSoup_54, sX8_giveSoup_57, wi_14, wg_14, ws_14, ww_14, wl_14, wn_14, am_rt_some, am_rt_void, am_rt_none, am_rt_ite, ↓reduceIte, if_true, if_false, and_self, true_and, and_true, true_or, or_true, Bool.false_eq_true, reduceCtorEq, am_nin (show fr + t < 5 by omega) (show (5 : Nat) < 2147483648 by omega), am_ncl (show fr + t < 2147483648 by omega), am_n1]
          refine ih (t + 1) _ _ (by omega) (f.ua (by decide)) hl (by rw [mo]; exact decide_eq_true ⟨by omega, q2, q3⟩) (fun j hj => ?_) (fun i hi => ?_)
          · rw [am_u_at, upd_ne (by omega)]
            exact g1 j hj
          · rw [am_u_at]
            by_cases y : i = t
            · subst y; rw [upd_at]
            · rw [upd_ne (by omega)]
              exact g2 i (by omega)
  have e5 : (5 : Int32) = nI 5 := rfl
  have lb : (5 : Int32) - 5 = nI (5 - 5) := by decide
  have nl : (nI (5 - 5) < nI fr) = False := by rw [am_nlt (by decide) (show fr < 2147483648 by omega)]; exact eq_false (by omega)
  simp only [eX8_giveSoup, sX8_giveSoup_0, sX8_giveSoup_1, sX8_giveSoup_2, sX8_giveSoup_3, am_rt_some, am_rt_void, am_rt_none, am_rt_ite, ↓reduceIte, if_true, if_false, and_self, true_and, and_true, true_or, or_true, Bool.false_eq_true, reduceCtorEq, shO hk, shF0 hk, shF1 hk, shF2 hk, shF3 hk, shF4 hk, shV0 hk, shV1 hk, shV2 hk, shV3 hk, shV4 hk, shP0 hk, shP1 hk, shP2 hk, shP3 hk, elI hk, elG hk, elS hk, elW hk, shAi hk, shIn hk, c_hasPlaces hk l1 h.2.2.1, pl5 l1 (show fr ≤ 60 by omega)]
  by_cases q : fr + 5 ≤ ln
  · simp only [q, if_true, sX8_giveSoup_6, sX8_giveSoup_9, sX8_giveSoup_10, sX8_giveSoup_11, sX8_giveSoup_12, sX8_giveSoup_13, sX8_giveSoup_14, wi_14, wg_14, ws_14, ww_14, wl_14, wn_14, am_rt_some, am_rt_void, am_rt_none, am_rt_ite, ↓reduceIte, if_true, if_false, and_self, true_and, and_true, true_or, or_true, Bool.false_eq_true, reduceCtorEq, not_true_eq_false, not_false_eq_true, false_and, and_false, true_and, and_true, and_self, or_self, true_or, or_true, false_or, or_false, ite_self, kEm14_m11, kEm14_m2, kEm14_m1, kEm14_0, kEm14_1, kEm14_2, kEm14_3, kEm14_4, kEm13_m11, kEm13_m2, kEm13_m1, kEm13_0, kEm13_1, kEm13_2, kEm13_3, kEm13_4, kEm12_m11, kEm12_m2, kEm12_m1, kEm12_0, kEm12_1, kEm12_2, kEm12_3, kEm12_4, kEm11_m2, kEm11_m1, kEm11_0, kEm11_1, kEm11_2, kEm11_3, kEm11_4, kEm5_m11, kEm5_m2, kEm5_m1, kEm5_0, kEm5_1, kEm5_2, kEm5_3, kEm5_4, kEm3_m11, kEm3_m2, kEm3_m1, kEm3_0, kEm3_1, kEm3_2, kEm3_3, kEm3_4, kEm2_m11, kEm2_m1, kEm2_0, kEm2_1, kEm2_2, kEm2_3, kEm2_4, kEm1_m11, kEm1_m2, kEm1_0, kEm1_1, kEm1_2, kEm1_3, kEm1_4, kE0_m11, kE0_m2, kE0_m1, kE0_1, kE0_2, kE0_3, kE0_4, kE1_m11, kE1_m2, kE1_m1, kE1_0, kE1_2, kE1_3, kE1_4, kE2_m11, kE2_m2, kE2_m1, kE2_0, kE2_1, kE2_3, kE2_4, kE3_m11, kE3_m2, kE3_m1, kE3_0, kE3_1, kE3_2, kE3_4, kE4_m11, kE4_m2, kE4_m1, kE4_0, kE4_1, kE4_2, kE4_3, kE5_m11, kE5_m2, kE5_m1, kE5_0, kE5_1, kE5_2, kE5_3, kE5_4, kE6_m11, kE6_m2, kE6_m1, kE6_0, kE6_1, kE6_2, kE6_3, kE6_4, kE7_m11, kE7_m2, kE7_m1, kE7_0, kE7_1, kE7_2, kE7_3, kE7_4, kE8_m11, kE8_m2, kE8_m1, kE8_0, kE8_1, kE8_2, kE8_3, kE8_4, kLm14_0, kLm14_1, kLm13_0, kLm13_1, kLm12_0, kLm12_1, kLm11_0, kLm11_1, kLm5_0, kLm5_1, kLm3_0, kLm3_1, kLm2_0, kLm2_1, kLm1_0, kLm1_1, kL0_0, kL0_1, kL1_0, kL1_1, kL2_0, kL2_1, kL3_0, kL3_1, kL4_0, kL4_1, kL5_0, kL5_1, kL6_0, kL6_1, kL7_0, kL7_1, kL8_0, kL8_1, lb, nl]
    simp only [sX8_giveSoup_19, sX8_giveSoup_20]
    exact key 5 0 A _ rfl Fr.rf q rfl (fun _ _ => rfl) (fun i hi => absurd hi (Nat.not_lt_zero i))
  · simp only [q, if_false, sX8_giveSoup_6, sX8_giveSoup_9, sX8_giveSoup_10, sX8_giveSoup_11, sX8_giveSoup_12, sX8_giveSoup_13, sX8_giveSoup_14, sX8_giveSoup_17, sX8_giveSoup_18, am_rt_some, am_rt_void, am_rt_none, am_rt_ite, ↓reduceIte, if_true, if_false, and_self, true_and, and_true, true_or, or_true, Bool.false_eq_true, reduceCtorEq, not_true_eq_false, not_false_eq_true, false_and, and_false, true_and, and_true, and_self, or_self, true_or, or_true, false_or, or_false, ite_self, kEm14_m11, kEm14_m2, kEm14_m1, kEm14_0, kEm14_1, kEm14_2, kEm14_3, kEm14_4, kEm13_m11, kEm13_m2, kEm13_m1, kEm13_0, kEm13_1, kEm13_2, kEm13_3, kEm13_4, kEm12_m11, kEm12_m2, kEm12_m1, kEm12_0, kEm12_1, kEm12_2, kEm12_3, kEm12_4, kEm11_m2, kEm11_m1, kEm11_0, kEm11_1, kEm11_2, kEm11_3, kEm11_4, kEm5_m11, kEm5_m2, kEm5_m1, kEm5_0, kEm5_1, kEm5_2, kEm5_3, kEm5_4, kEm3_m11, kEm3_m2, kEm3_m1, kEm3_0, kEm3_1, kEm3_2, kEm3_3, kEm3_4, kEm2_m11, kEm2_m1, kEm2_0, kEm2_1, kEm2_2, kEm2_3, kEm2_4, kEm1_m11, kEm1_m2, kEm1_0, kEm1_1, kEm1_2, kEm1_3, kEm1_4, kE0_m11, kE0_m2, kE0_m1, kE0_1, kE0_2, kE0_3, kE0_4, kE1_m11, kE1_m2, kE1_m1, kE1_0, kE1_2, kE1_3, kE1_4, kE2_m11, kE2_m2, kE2_m1, kE2_0, kE2_1, kE2_3, kE2_4, kE3_m11, kE3_m2, kE3_m1, kE3_0, kE3_1, kE3_2, kE3_4, kE4_m11, kE4_m2, kE4_m1, kE4_0, kE4_1, kE4_2, kE4_3, kE5_m11, kE5_m2, kE5_m1, kE5_0, kE5_1, kE5_2, kE5_3, kE5_4, kE6_m11, kE6_m2, kE6_m1, kE6_0, kE6_1, kE6_2, kE6_3, kE6_4, kE7_m11, kE7_m2, kE7_m1, kE7_0, kE7_1, kE7_2, kE7_3, kE7_4, kE8_m11, kE8_m2, kE8_m1, kE8_0, kE8_1, kE8_2, kE8_3, kE8_4, kLm14_0, kLm14_1, kLm13_0, kLm13_1, kLm12_0, kLm12_1, kLm11_0, kLm11_1, kLm5_0, kLm5_1, kLm3_0, kLm3_1, kLm2_0, kLm2_1, kLm1_0, kLm1_1, kL0_0, kL0_1, kL1_0, kL1_1, kL2_0, kL2_1, kL3_0, kL3_1, kL4_0, kL4_1, kL5_0, kL5_1, kL6_0, kL6_1, kL7_0, kL7_1, kL8_0, kL8_1, sOk_5 q, Bool.false_eq_true]
    exact am_T.ri ⟨Fr.rf, fun _ _ => rfl, fun y => absurd y (by decide)⟩
theorem c_giveSoup39 {k ln fr : Nat} {b : Nat → Int32} (h : ShB I A J k ln b) (hf : fr + 5 ≤ 30) : am_T (am_CL X (d + 3) mX8_giveSoup [.ref (69 + 2 * k), .int (nI fr), .ref 39] (am_wd I A J)) (oI (if sOk ln b fr 5 = true then 1 else 0) fun I' A' J' => Fr [] [39] [] I A J I' A' J' ∧ (∀ j, j < fr → A' 39 j = A 39 j) ∧ (sOk ln b fr 5 = true → ∀ i, i < 5 → A' 39 (fr + i) = b (fr + i))) := by
  have hk := h.1
  have l1 := h.2.1
  have key : ∀ (m t : Nat) (A1 : TI) (z4 : Value), t + m = 5 → Fr [] [39] [] I A J I A1 J → fr + 5 ≤ ln → sOk ln b fr t = true → (∀ j, j < fr → A1 39 j = A 39 j) → (∀ i, i < t → A1 39 (fr + i) = b (fr + i)) → am_T (am_EV X (d + 2) mX8_giveSoup 21 [.ref (69 + 2 * k), .int (nI fr), .ref 39, .int (nI (fr + t)), z4] [] (am_wd I A1 J)) (oI (if sOk ln b fr 5 = true then 1 else 0) fun I' A' J' => Fr [] [39] [] I A J I' A' J' ∧ (∀ j, j < fr → A' 39 j = A 39 j) ∧ (sOk ln b fr 5 = true → ∀ i, i < 5 → A' 39 (fr + i) = b (fr + i))) := by
    intro m
    induction m with
    | zero =>
      intro t A1 z4 ht f hl g0 g1 g2
      have t5 : t = 5 := by omega
      subst t5
      have e5 : nI fr + 5 = nI (fr + 5) := i_add fr 5
      simp only [sX8_giveSoup_21, sX8_giveSoup_22, sX8_giveSoup_23, sX8_giveSoup_24, sX8_giveSoup_25, sX8_giveSoup_60, sX8_giveSoup_61, am_rt_some, am_rt_void, am_rt_none, am_rt_ite, ↓reduceIte, if_true, if_false, and_self, true_and, and_true, true_or, or_true, Bool.false_eq_true, reduceCtorEq, e5, am_nlt (show fr + 5 < 2147483648 by omega) (show fr + 5 < 2147483648 by omega), Nat.lt_irrefl, g0]
      exact am_T.ri ⟨f, g1, fun _ => g2⟩
    | succ m ih =>
      intro t A1 z4 ht f hl g0 g1 g2
      have hB : ShB I A1 J k ln b := h.fr f (by decide) (by decide) (by decide)
      have e5 : nI fr + 5 = nI (fr + 5) := i_add fr 5
      have hlt : (fr + t < fr + 5) = True := eq_true (by omega)
      have mo : sOk ln b fr (t + 1) = decide (fr + t < ln ∧ ¬ b (fr + t) < 0 ∧ ¬ 99 < b (fr + t)) := by
        show (sOk ln b fr t && _) = _
        rw [g0, Bool.true_and]
      have stop : sOk ln b fr (t + 1) = false → am_T (some (some (.int 0), am_wd I A1 J)) (oI (if sOk ln b fr 5 = true then 1 else 0) fun I' A' J' => Fr [] [39] [] I A J I' A' J' ∧ (∀ j, j < fr → A' 39 j = A 39 j) ∧ (sOk ln b fr 5 = true → ∀ i, i < 5 → A' 39 (fr + i) = b (fr + i))) := by
        intro q
        have q5 := sOk_f q 5 (by omega)
        rw [q5]
        exact am_T.ri ⟨f, g1, fun y => absurd y (by decide)⟩
      rw [sX8_giveSoup_21]
      simp only [sX8_giveSoup_22, sX8_giveSoup_23, sX8_giveSoup_24, sX8_giveSoup_25, sX8_giveSoup_28, sX8_giveSoup_29, sX8_giveSoup_30, sX8_giveSoup_33, sX8_giveSoup_35, sX8_giveSoup_37, am_rt_some, am_rt_void, am_rt_none, am_rt_ite, ↓reduceIte, if_true, if_false, and_self, true_and, and_true, true_or, or_true, Bool.false_eq_true, reduceCtorEq, shO hk, shF0 hk, shF1 hk, shF2 hk, shF3 hk, shF4 hk, shV0 hk, shV1 hk, shV2 hk, shV3 hk, shV4 hk, shP0 hk, shP1 hk, shP2 hk, shP3 hk, elI hk, elG hk, elS hk, elW hk, shAi hk, shIn hk, e5, am_nlt (show fr + t < 2147483648 by omega) (show fr + 5 < 2147483648 by omega), hlt, c_byteAt' hB (show fr + t < ln by omega)]
      by_cases q2 : b (fr + t) < 0
      · simp only [q2, if_true, sX8_giveSoup_47, sX8_giveSoup_48, am_rt_some, am_rt_void, am_rt_none, am_rt_ite, ↓reduceIte, if_true, if_false, and_self, true_and, and_true, true_or, or_true, Bool.false_eq_true, reduceCtorEq]
        exact stop (by rw [mo]; simp [q2])
      · simp only [q2, if_false, sX8_giveSoup_40, sX8_giveSoup_42, sX8_giveSoup_44]
        by_cases q3 : 99 < b (fr + t)
        · simp only [q3, if_true, sX8_giveSoup_47, sX8_giveSoup_48, am_rt_some, am_rt_void, am_rt_none, am_rt_ite, ↓reduceIte, if_true, if_false, and_self, true_and, and_true, true_or, or_true, Bool.false_eq_true, reduceCtorEq]
          exact stop (by rw [mo]; simp [q3])
        · simp only [q3, if_false, sX8_giveSoup_49, sX8_giveSoup_50, sX8_giveSoup_51, sX8_giveSoup_53, sX8_giveSoup_54, sX8_giveSoup_57, wi_39, wg_39, ws_39, ww_39, wl_39, wn_39, am_rt_some, am_rt_void, am_rt_none, am_rt_ite, ↓reduceIte, if_true, if_false, and_self, true_and, and_true, true_or, or_true, Bool.false_eq_true, reduceCtorEq, am_nin (show fr + t < 30 by omega) (show (30 : Nat) < 2147483648 by omega), am_ncl (show fr + t < 2147483648 by omega), am_n1]
          refine ih (t + 1) _ _ (by omega) (f.ua (by decide)) hl (by rw [mo]; exact decide_eq_true ⟨by omega, q2, q3⟩) (fun j hj => ?_) (fun i hi => ?_)
          · rw [am_u_at, upd_ne (by omega)]
            exact g1 j hj
          · rw [am_u_at]
            by_cases y : i = t
            · subst y; rw [upd_at]
            · rw [upd_ne (by omega)]
              exact g2 i (by omega)
  have e5 : (5 : Int32) = nI 5 := rfl
  have lb : (30 : Int32) - 5 = nI (30 - 5) := by decide
  have nl : (nI (30 - 5) < nI fr) = False := by rw [am_nlt (by decide) (show fr < 2147483648 by omega)]; exact eq_false (by omega)
  simp only [eX8_giveSoup, sX8_giveSoup_0, sX8_giveSoup_1, sX8_giveSoup_2, sX8_giveSoup_3, am_rt_some, am_rt_void, am_rt_none, am_rt_ite, ↓reduceIte, if_true, if_false, and_self, true_and, and_true, true_or, or_true, Bool.false_eq_true, reduceCtorEq, shO hk, shF0 hk, shF1 hk, shF2 hk, shF3 hk, shF4 hk, shV0 hk, shV1 hk, shV2 hk, shV3 hk, shV4 hk, shP0 hk, shP1 hk, shP2 hk, shP3 hk, elI hk, elG hk, elS hk, elW hk, shAi hk, shIn hk, c_hasPlaces hk l1 h.2.2.1, pl5 l1 (show fr ≤ 60 by omega)]
  by_cases q : fr + 5 ≤ ln
  · simp only [q, if_true, sX8_giveSoup_6, sX8_giveSoup_9, sX8_giveSoup_10, sX8_giveSoup_11, sX8_giveSoup_12, sX8_giveSoup_13, sX8_giveSoup_14, wi_39, wg_39, ws_39, ww_39, wl_39, wn_39, am_rt_some, am_rt_void, am_rt_none, am_rt_ite, ↓reduceIte, if_true, if_false, and_self, true_and, and_true, true_or, or_true, Bool.false_eq_true, reduceCtorEq, not_true_eq_false, not_false_eq_true, false_and, and_false, true_and, and_true, and_self, or_self, true_or, or_true, false_or, or_false, ite_self, kEm14_m11, kEm14_m2, kEm14_m1, kEm14_0, kEm14_1, kEm14_2, kEm14_3, kEm14_4, kEm13_m11, kEm13_m2, kEm13_m1, kEm13_0, kEm13_1, kEm13_2, kEm13_3, kEm13_4, kEm12_m11, kEm12_m2, kEm12_m1, kEm12_0, kEm12_1, kEm12_2, kEm12_3, kEm12_4, kEm11_m2, kEm11_m1, kEm11_0, kEm11_1, kEm11_2, kEm11_3, kEm11_4, kEm5_m11, kEm5_m2, kEm5_m1, kEm5_0, kEm5_1, kEm5_2, kEm5_3, kEm5_4, kEm3_m11, kEm3_m2, kEm3_m1, kEm3_0, kEm3_1, kEm3_2, kEm3_3, kEm3_4, kEm2_m11, kEm2_m1, kEm2_0, kEm2_1, kEm2_2, kEm2_3, kEm2_4, kEm1_m11, kEm1_m2, kEm1_0, kEm1_1, kEm1_2, kEm1_3, kEm1_4, kE0_m11, kE0_m2, kE0_m1, kE0_1, kE0_2, kE0_3, kE0_4, kE1_m11, kE1_m2, kE1_m1, kE1_0, kE1_2, kE1_3, kE1_4, kE2_m11, kE2_m2, kE2_m1, kE2_0, kE2_1, kE2_3, kE2_4, kE3_m11, kE3_m2, kE3_m1, kE3_0, kE3_1, kE3_2, kE3_4, kE4_m11, kE4_m2, kE4_m1, kE4_0, kE4_1, kE4_2, kE4_3, kE5_m11, kE5_m2, kE5_m1, kE5_0, kE5_1, kE5_2, kE5_3, kE5_4, kE6_m11, kE6_m2, kE6_m1, kE6_0, kE6_1, kE6_2, kE6_3, kE6_4, kE7_m11, kE7_m2, kE7_m1, kE7_0, kE7_1, kE7_2, kE7_3, kE7_4, kE8_m11, kE8_m2, kE8_m1, kE8_0, kE8_1, kE8_2, kE8_3, kE8_4, kLm14_0, kLm14_1, kLm13_0, kLm13_1, kLm12_0, kLm12_1, kLm11_0, kLm11_1, kLm5_0, kLm5_1, kLm3_0, kLm3_1, kLm2_0, kLm2_1, kLm1_0, kLm1_1, kL0_0, kL0_1, kL1_0, kL1_1, kL2_0, kL2_1, kL3_0, kL3_1, kL4_0, kL4_1, kL5_0, kL5_1, kL6_0, kL6_1, kL7_0, kL7_1, kL8_0, kL8_1, lb, nl]
    simp only [sX8_giveSoup_19, sX8_giveSoup_20]
    exact key 5 0 A _ rfl Fr.rf q rfl (fun _ _ => rfl) (fun i hi => absurd hi (Nat.not_lt_zero i))
  · simp only [q, if_false, sX8_giveSoup_6, sX8_giveSoup_9, sX8_giveSoup_10, sX8_giveSoup_11, sX8_giveSoup_12, sX8_giveSoup_13, sX8_giveSoup_14, sX8_giveSoup_17, sX8_giveSoup_18, am_rt_some, am_rt_void, am_rt_none, am_rt_ite, ↓reduceIte, if_true, if_false, and_self, true_and, and_true, true_or, or_true, Bool.false_eq_true, reduceCtorEq, not_true_eq_false, not_false_eq_true, false_and, and_false, true_and, and_true, and_self, or_self, true_or, or_true, false_or, or_false, ite_self, kEm14_m11, kEm14_m2, kEm14_m1, kEm14_0, kEm14_1, kEm14_2, kEm14_3, kEm14_4, kEm13_m11, kEm13_m2, kEm13_m1, kEm13_0, kEm13_1, kEm13_2, kEm13_3, kEm13_4, kEm12_m11, kEm12_m2, kEm12_m1, kEm12_0, kEm12_1, kEm12_2, kEm12_3, kEm12_4, kEm11_m2, kEm11_m1, kEm11_0, kEm11_1, kEm11_2, kEm11_3, kEm11_4, kEm5_m11, kEm5_m2, kEm5_m1, kEm5_0, kEm5_1, kEm5_2, kEm5_3, kEm5_4, kEm3_m11, kEm3_m2, kEm3_m1, kEm3_0, kEm3_1, kEm3_2, kEm3_3, kEm3_4, kEm2_m11, kEm2_m1, kEm2_0, kEm2_1, kEm2_2, kEm2_3, kEm2_4, kEm1_m11, kEm1_m2, kEm1_0, kEm1_1, kEm1_2, kEm1_3, kEm1_4, kE0_m11, kE0_m2, kE0_m1, kE0_1, kE0_2, kE0_3, kE0_4, kE1_m11, kE1_m2, kE1_m1, kE1_0, kE1_2, kE1_3, kE1_4, kE2_m11, kE2_m2, kE2_m1, kE2_0, kE2_1, kE2_3, kE2_4, kE3_m11, kE3_m2, kE3_m1, kE3_0, kE3_1, kE3_2, kE3_4, kE4_m11, kE4_m2, kE4_m1, kE4_0, kE4_1, kE4_2, kE4_3, kE5_m11, kE5_m2, kE5_m1, kE5_0, kE5_1, kE5_2, kE5_3, kE5_4, kE6_m11, kE6_m2, kE6_m1, kE6_0, kE6_1, kE6_2, kE6_3, kE6_4, kE7_m11, kE7_m2, kE7_m1, kE7_0, kE7_1, kE7_2, kE7_3, kE7_4, kE8_m11, kE8_m2, kE8_m1, kE8_0, kE8_1, kE8_2, kE8_3, kE8_4, kLm14_0, kLm14_1, kLm13_0, kLm13_1, kLm12_0, kLm12_1, kLm11_0, kLm11_1, kLm5_0, kLm5_1, kLm3_0, kLm3_1, kLm2_0, kLm2_1, kLm1_0, kLm1_1, kL0_0, kL0_1, kL1_0, kL1_1, kL2_0, kL2_1, kL3_0, kL3_1, kL4_0, kL4_1, kL5_0, kL5_1, kL6_0, kL6_1, kL7_0, kL7_1, kL8_0, kL8_1, sOk_5 q, Bool.false_eq_true]
    exact am_T.ri ⟨Fr.rf, fun _ _ => rfl, fun y => absurd y (by decide)⟩
theorem r_readSoup {k ln fr : Nat} {b : Nat → Int32} (h : ShB I A J k ln b) (hf : fr ≤ 60) : am_T (am_CL X (d + 2) mX11_readSoup [.ref 81, .int (nI k), .int (nI fr)] (am_wd I A J)) (oI (if sOk ln b fr 5 = true then 1 else 0) fun I' A' J' => Fr [] [94] [] I A J I' A' J' ∧ ∀ i, i < 5 → A' 94 i = if fr + i < ln then b (fr + i) else -1) := by
  have hk := h.1
  have l1 := h.2.1
  have key : ∀ (m t : Nat) (A1 : TI), t + m = 5 → Fr [] [94] [] I A J I A1 J → (∀ i, i < t → A1 94 i = if fr + i < ln then b (fr + i) else -1) → am_T (am_EV X (d + 1) mX11_readSoup 5 [.ref 81, .int (nI k), .int (nI fr), .int (if sOk ln b fr t = true then 1 else 0), .int (nI t)] [] (am_wd I A1 J)) (oI (if sOk ln b fr 5 = true then 1 else 0) fun I' A' J' => Fr [] [94] [] I A J I' A' J' ∧ ∀ i, i < 5 → A' 94 i = if fr + i < ln then b (fr + i) else -1) := by
    intro m
    induction m with
    | zero =>
      intro t A1 ht f g
      have t5 : t = 5 := by omega
      subst t5
      simp only [sX11_readSoup_5, sX11_readSoup_7, sX11_readSoup_8, sX11_readSoup_59, sX11_readSoup_60, am_rt_some, am_rt_void, am_rt_none, am_rt_ite, ↓reduceIte, if_true, if_false, and_self, true_and, and_true, true_or, or_true, Bool.false_eq_true, reduceCtorEq, show (nI 5 < 5) = False by decide, am_bi_01]
      exact am_T.ri ⟨f, g⟩
    | succ m ih =>
      intro t A1 ht f g
      have hB : ShB I A1 J k ln b := h.fr f (by decide) (by decide) (by decide)
      have hlt : (nI t < 5) = True := by rw [am_nlit (x := 5) 5 rfl (show t < 2147483648 by omega) (by decide)]; exact eq_true (by omega)
      have mo : sOk ln b fr (t + 1) = (sOk ln b fr t && decide (fr + t < ln ∧ ¬ b (fr + t) < 0 ∧ ¬ 99 < b (fr + t))) := rfl
      rw [sX11_readSoup_5]
      simp only [sX11_readSoup_7, sX11_readSoup_8, sX11_readSoup_11, sX11_readSoup_12, sX11_readSoup_15, sX11_readSoup_17, sX11_readSoup_18, sX11_readSoup_19, sX11_readSoup_20, sX11_readSoup_22, sX11_readSoup_23, sX11_readSoup_26, sX11_readSoup_27, wo_81, wf_81_0, wv_81_0, wf_81_1, wv_81_1, wp_81_1, wf_81_2, wv_81_2, wp_81_2, wf_81_3, wv_81_3, wf_81_4, wv_81_4, wf_81_5, wv_81_5, wf_81_6, wv_81_6, wp_81_6, wf_81_7, wv_81_7, wp_81_7, wf_81_8, wv_81_8, wf_81_9, wv_81_9, wp_81_9, wf_81_10, wv_81_10, wf_81_11, wv_81_11, wp_81_11, wf_81_12, wv_81_12, wp_81_12, wf_81_13, wv_81_13, wf_81_14, wv_81_14, wp_81_14, wf_81_15, wv_81_15, wp_81_15, wf_81_16, wv_81_16, wp_81_16, wf_81_17, wv_81_17, wp_81_17, wf_81_18, wv_81_18, wf_81_19, wv_81_19, wf_81_20, wv_81_20, wf_81_21, wv_81_21, wf_81_22, wv_81_22, wf_81_23, wv_81_23, wf_81_24, wv_81_24, wf_81_25, wv_81_25, wf_81_26, wv_81_26, wf_81_27, wv_81_27, wf_81_28, wv_81_28, wf_81_29, wv_81_29, wf_81_30, wv_81_30, wf_81_31, wv_81_31, wf_81_32, wv_81_32, wf_81_33, wv_81_33, wp_81_33, wf_81_34, wv_81_34, wf_81_35, wv_81_35, wp_81_35, wf_81_36, wv_81_36, wf_81_37, wv_81_37, wp_81_37, wf_81_38, wv_81_38, wf_81_39, wv_81_39, wf_81_40, wv_81_40, wf_81_41, wv_81_41, wf_81_42, wv_81_42, wp_81_42, wf_81_43, wv_81_43, wp_81_43, wf_81_44, wv_81_44, wp_81_44, wf_81_45, wv_81_45, wf_81_46, wv_81_46, wf_81_47, wv_81_47, wf_81_48, wv_81_48, wp_81_48, wf_81_49, wv_81_49, wf_81_50, wv_81_50, wp_81_50, wi_94, wg_94, ws_94, ww_94, wl_94, wn_94, am_rt_some, am_rt_void, am_rt_none, am_rt_ite, ↓reduceIte, if_true, if_false, and_self, true_and, and_true, true_or, or_true, Bool.false_eq_true, reduceCtorEq, hlt, i_add, r_byteAt hB (show fr + t < 2147483648 by omega), am_nin (show t < 5 by omega) (show (5 : Nat) < 2147483648 by omega), am_ncl (show t < 2147483648 by omega)]
      have hB2 : ∀ g, A1 94 = A1 94 → am_u A1 94 g 94 = g := fun g _ => am_u_at
      have mid : ∀ v : Int32, v = (if fr + t < ln then b (fr + t) else -1) → am_EV X (d + 1) mX11_readSoup 28 [.ref 81, .int (nI k), .int (nI fr), .int (if sOk ln b fr t = true then 1 else 0), .int (nI t)] [.int (if sOk ln b fr t = true then 1 else 0)] (am_wd I (am_u A1 94 (upd (A1 94) t v)) J) = am_EV X (d + 1) mX11_readSoup 5 [.ref 81, .int (nI k), .int (nI fr), .int (if sOk ln b fr (t + 1) = true then 1 else 0), .int (nI (t + 1))] [] (am_wd I (am_u A1 94 (upd (A1 94) t v)) J) := by
        intro v hv
        rw [mo]
        cases hm : sOk ln b fr t with
        | false => simp only [sX11_readSoup_28, sX11_readSoup_31, sX11_readSoup_32, sX11_readSoup_35, sX11_readSoup_37, sX11_readSoup_38, sX11_readSoup_39, sX11_readSoup_41, sX11_readSoup_44, sX11_readSoup_47, sX11_readSoup_48, sX11_readSoup_51, sX11_readSoup_52, sX11_readSoup_53, sX11_readSoup_56, am_rt_some, am_rt_void, am_rt_none, am_rt_ite, ↓reduceIte, if_true, if_false, and_self, true_and, and_true, true_or, or_true, Bool.false_eq_true, reduceCtorEq, Bool.false_and, Bool.false_eq_true, not_true_eq_false, not_false_eq_true, false_and, and_false, true_and, and_true, and_self, or_self, true_or, or_true, false_or, or_false, ite_self, kEm14_m11, kEm14_m2, kEm14_m1, kEm14_0, kEm14_1, kEm14_2, kEm14_3, kEm14_4, kEm13_m11, kEm13_m2, kEm13_m1, kEm13_0, kEm13_1, kEm13_2, kEm13_3, kEm13_4, kEm12_m11, kEm12_m2, kEm12_m1, kEm12_0, kEm12_1, kEm12_2, kEm12_3, kEm12_4, kEm11_m2, kEm11_m1, kEm11_0, kEm11_1, kEm11_2, kEm11_3, kEm11_4, kEm5_m11, kEm5_m2, kEm5_m1, kEm5_0, kEm5_1, kEm5_2, kEm5_3, kEm5_4, kEm3_m11, kEm3_m2, kEm3_m1, kEm3_0, kEm3_1, kEm3_2, kEm3_3, kEm3_4, kEm2_m11, kEm2_m1, kEm2_0, kEm2_1, kEm2_2, kEm2_3, kEm2_4, kEm1_m11, kEm1_m2, kEm1_0, kEm1_1, kEm1_2, kEm1_3, kEm1_4, kE0_m11, kE0_m2, kE0_m1, kE0_1, kE0_2, kE0_3, kE0_4, kE1_m11, kE1_m2, kE1_m1, kE1_0, kE1_2, kE1_3, kE1_4, kE2_m11, kE2_m2, kE2_m1, kE2_0, kE2_1, kE2_3, kE2_4, kE3_m11, kE3_m2, kE3_m1, kE3_0, kE3_1, kE3_2, kE3_4, kE4_m11, kE4_m2, kE4_m1, kE4_0, kE4_1, kE4_2, kE4_3, kE5_m11, kE5_m2, kE5_m1, kE5_0, kE5_1, kE5_2, kE5_3, kE5_4, kE6_m11, kE6_m2, kE6_m1, kE6_0, kE6_1, kE6_2, kE6_3, kE6_4, kE7_m11, kE7_m2, kE7_m1, kE7_0, kE7_1, kE7_2, kE7_3, kE7_4, kE8_m11, kE8_m2, kE8_m1, kE8_0, kE8_1, kE8_2, kE8_3, kE8_4, kLm14_0, kLm14_1, kLm13_0, kLm13_1, kLm12_0, kLm12_1, kLm11_0, kLm11_1, kLm5_0, kLm5_1, kLm3_0, kLm3_1, kLm2_0, kLm2_1, kLm1_0, kLm1_1, kL0_0, kL0_1, kL1_0, kL1_1, kL2_0, kL2_1, kL3_0, kL3_1, kL4_0, kL4_1, kL5_0, kL5_1, kL6_0, kL6_1, kL7_0, kL7_1, kL8_0, kL8_1, am_n1]
        | true =>
          simp only [sX11_readSoup_28, sX11_readSoup_31, sX11_readSoup_32, sX11_readSoup_35, sX11_readSoup_37, sX11_readSoup_38, sX11_readSoup_39, sX11_readSoup_41, sX11_readSoup_44, wo_81, wf_81_0, wv_81_0, wf_81_1, wv_81_1, wp_81_1, wf_81_2, wv_81_2, wp_81_2, wf_81_3, wv_81_3, wf_81_4, wv_81_4, wf_81_5, wv_81_5, wf_81_6, wv_81_6, wp_81_6, wf_81_7, wv_81_7, wp_81_7, wf_81_8, wv_81_8, wf_81_9, wv_81_9, wp_81_9, wf_81_10, wv_81_10, wf_81_11, wv_81_11, wp_81_11, wf_81_12, wv_81_12, wp_81_12, wf_81_13, wv_81_13, wf_81_14, wv_81_14, wp_81_14, wf_81_15, wv_81_15, wp_81_15, wf_81_16, wv_81_16, wp_81_16, wf_81_17, wv_81_17, wp_81_17, wf_81_18, wv_81_18, wf_81_19, wv_81_19, wf_81_20, wv_81_20, wf_81_21, wv_81_21, wf_81_22, wv_81_22, wf_81_23, wv_81_23, wf_81_24, wv_81_24, wf_81_25, wv_81_25, wf_81_26, wv_81_26, wf_81_27, wv_81_27, wf_81_28, wv_81_28, wf_81_29, wv_81_29, wf_81_30, wv_81_30, wf_81_31, wv_81_31, wf_81_32, wv_81_32, wf_81_33, wv_81_33, wp_81_33, wf_81_34, wv_81_34, wf_81_35, wv_81_35, wp_81_35, wf_81_36, wv_81_36, wf_81_37, wv_81_37, wp_81_37, wf_81_38, wv_81_38, wf_81_39, wv_81_39, wf_81_40, wv_81_40, wf_81_41, wv_81_41, wf_81_42, wv_81_42, wp_81_42, wf_81_43, wv_81_43, wp_81_43, wf_81_44, wv_81_44, wp_81_44, wf_81_45, wv_81_45, wf_81_46, wv_81_46, wf_81_47, wv_81_47, wf_81_48, wv_81_48, wp_81_48, wf_81_49, wv_81_49, wf_81_50, wv_81_50, wp_81_50, wi_94, wg_94, ws_94, ww_94, wl_94, wn_94, am_rt_some, am_rt_void, am_rt_none, am_rt_ite, ↓reduceIte, if_true, if_false, and_self, true_and, and_true, true_or, or_true, Bool.false_eq_true, reduceCtorEq, Bool.true_and, not_true_eq_false, not_false_eq_true, false_and, and_false, true_and, and_true, and_self, or_self, true_or, or_true, false_or, or_false, ite_self, kEm14_m11, kEm14_m2, kEm14_m1, kEm14_0, kEm14_1, kEm14_2, kEm14_3, kEm14_4, kEm13_m11, kEm13_m2, kEm13_m1, kEm13_0, kEm13_1, kEm13_2, kEm13_3, kEm13_4, kEm12_m11, kEm12_m2, kEm12_m1, kEm12_0, kEm12_1, kEm12_2, kEm12_3, kEm12_4, kEm11_m2, kEm11_m1, kEm11_0, kEm11_1, kEm11_2, kEm11_3, kEm11_4, kEm5_m11, kEm5_m2, kEm5_m1, kEm5_0, kEm5_1, kEm5_2, kEm5_3, kEm5_4, kEm3_m11, kEm3_m2, kEm3_m1, kEm3_0, kEm3_1, kEm3_2, kEm3_3, kEm3_4, kEm2_m11, kEm2_m1, kEm2_0, kEm2_1, kEm2_2, kEm2_3, kEm2_4, kEm1_m11, kEm1_m2, kEm1_0, kEm1_1, kEm1_2, kEm1_3, kEm1_4, kE0_m11, kE0_m2, kE0_m1, kE0_1, kE0_2, kE0_3, kE0_4, kE1_m11, kE1_m2, kE1_m1, kE1_0, kE1_2, kE1_3, kE1_4, kE2_m11, kE2_m2, kE2_m1, kE2_0, kE2_1, kE2_3, kE2_4, kE3_m11, kE3_m2, kE3_m1, kE3_0, kE3_1, kE3_2, kE3_4, kE4_m11, kE4_m2, kE4_m1, kE4_0, kE4_1, kE4_2, kE4_3, kE5_m11, kE5_m2, kE5_m1, kE5_0, kE5_1, kE5_2, kE5_3, kE5_4, kE6_m11, kE6_m2, kE6_m1, kE6_0, kE6_1, kE6_2, kE6_3, kE6_4, kE7_m11, kE7_m2, kE7_m1, kE7_0, kE7_1, kE7_2, kE7_3, kE7_4, kE8_m11, kE8_m2, kE8_m1, kE8_0, kE8_1, kE8_2, kE8_3, kE8_4, kLm14_0, kLm14_1, kLm13_0, kLm13_1, kLm12_0, kLm12_1, kLm11_0, kLm11_1, kLm5_0, kLm5_1, kLm3_0, kLm3_1, kLm2_0, kLm2_1, kLm1_0, kLm1_1, kL0_0, kL0_1, kL1_0, kL1_1, kL2_0, kL2_1, kL3_0, kL3_1, kL4_0, kL4_1, kL5_0, kL5_1, kL6_0, kL6_1, kL7_0, kL7_1, kL8_0, kL8_1, r_isIn, am_bi_eq0, am_nin (show t < 5 by omega) (show (5 : Nat) < 2147483648 by omega), am_ncl (show t < 2147483648 by omega), am_u_at, upd_at]
          by_cases q : fr + t < ln
          · rw [if_pos q] at hv
            subst hv
            by_cases q2 : b (fr + t) < 0 <;> by_cases q3 : 99 < b (fr + t) <;> simp only [q, q2, q3, not_true_eq_false, not_false_eq_true, false_and, and_false, true_and, and_true, and_self, or_self, true_or, or_true, false_or, or_false, ite_self, kEm14_m11, kEm14_m2, kEm14_m1, kEm14_0, kEm14_1, kEm14_2, kEm14_3, kEm14_4, kEm13_m11, kEm13_m2, kEm13_m1, kEm13_0, kEm13_1, kEm13_2, kEm13_3, kEm13_4, kEm12_m11, kEm12_m2, kEm12_m1, kEm12_0, kEm12_1, kEm12_2, kEm12_3, kEm12_4, kEm11_m2, kEm11_m1, kEm11_0, kEm11_1, kEm11_2, kEm11_3, kEm11_4, kEm5_m11, kEm5_m2, kEm5_m1, kEm5_0, kEm5_1, kEm5_2, kEm5_3, kEm5_4, kEm3_m11, kEm3_m2, kEm3_m1, kEm3_0, kEm3_1, kEm3_2, kEm3_3, kEm3_4, kEm2_m11, kEm2_m1, kEm2_0, kEm2_1, kEm2_2, kEm2_3, kEm2_4, kEm1_m11, kEm1_m2, kEm1_0, kEm1_1, kEm1_2, kEm1_3, kEm1_4, kE0_m11, kE0_m2, kE0_m1, kE0_1, kE0_2, kE0_3, kE0_4, kE1_m11, kE1_m2, kE1_m1, kE1_0, kE1_2, kE1_3, kE1_4, kE2_m11, kE2_m2, kE2_m1, kE2_0, kE2_1, kE2_3, kE2_4, kE3_m11, kE3_m2, kE3_m1, kE3_0, kE3_1, kE3_2, kE3_4, kE4_m11, kE4_m2, kE4_m1, kE4_0, kE4_1, kE4_2, kE4_3, kE5_m11, kE5_m2, kE5_m1, kE5_0, kE5_1, kE5_2, kE5_3, kE5_4, kE6_m11, kE6_m2, kE6_m1, kE6_0, kE6_1, kE6_2, kE6_3, kE6_4, kE7_m11, kE7_m2, kE7_m1, kE7_0, kE7_1, kE7_2, kE7_3, kE7_4, kE8_m11, kE8_m2, kE8_m1, kE8_0, kE8_1, kE8_2, kE8_3, kE8_4, kLm14_0, kLm14_1, kLm13_0, kLm13_1, kLm12_0, kLm12_1, kLm11_0, kLm11_1, kLm5_0, kLm5_1, kLm3_0, kLm3_1, kLm2_0, kLm2_1, kLm1_0, kLm1_1, kL0_0, kL0_1, kL1_0, kL1_1, kL2_0, kL2_1, kL3_0, kL3_1, kL4_0, kL4_1, kL5_0, kL5_1, kL6_0, kL6_1, kL7_0, kL7_1, kL8_0, kL8_1, if_true, if_false, sX11_readSoup_47, sX11_readSoup_48, sX11_readSoup_51, sX11_readSoup_52, sX11_readSoup_53, sX11_readSoup_56, decide_eq_true_eq, am_n1]
          · rw [if_neg q] at hv
            subst hv
            simp only [q, not_true_eq_false, not_false_eq_true, false_and, and_false, true_and, and_true, and_self, or_self, true_or, or_true, false_or, or_false, ite_self, kEm14_m11, kEm14_m2, kEm14_m1, kEm14_0, kEm14_1, kEm14_2, kEm14_3, kEm14_4, kEm13_m11, kEm13_m2, kEm13_m1, kEm13_0, kEm13_1, kEm13_2, kEm13_3, kEm13_4, kEm12_m11, kEm12_m2, kEm12_m1, kEm12_0, kEm12_1, kEm12_2, kEm12_3, kEm12_4, kEm11_m2, kEm11_m1, kEm11_0, kEm11_1, kEm11_2, kEm11_3, kEm11_4, kEm5_m11, kEm5_m2, kEm5_m1, kEm5_0, kEm5_1, kEm5_2, kEm5_3, kEm5_4, kEm3_m11, kEm3_m2, kEm3_m1, kEm3_0, kEm3_1, kEm3_2, kEm3_3, kEm3_4, kEm2_m11, kEm2_m1, kEm2_0, kEm2_1, kEm2_2, kEm2_3, kEm2_4, kEm1_m11, kEm1_m2, kEm1_0, kEm1_1, kEm1_2, kEm1_3, kEm1_4, kE0_m11, kE0_m2, kE0_m1, kE0_1, kE0_2, kE0_3, kE0_4, kE1_m11, kE1_m2, kE1_m1, kE1_0, kE1_2, kE1_3, kE1_4, kE2_m11, kE2_m2, kE2_m1, kE2_0, kE2_1, kE2_3, kE2_4, kE3_m11, kE3_m2, kE3_m1, kE3_0, kE3_1, kE3_2, kE3_4, kE4_m11, kE4_m2, kE4_m1, kE4_0, kE4_1, kE4_2, kE4_3, kE5_m11, kE5_m2, kE5_m1, kE5_0, kE5_1, kE5_2, kE5_3, kE5_4, kE6_m11, kE6_m2, kE6_m1, kE6_0, kE6_1, kE6_2, kE6_3, kE6_4, kE7_m11, kE7_m2, kE7_m1, kE7_0, kE7_1, kE7_2, kE7_3, kE7_4, kE8_m11, kE8_m2, kE8_m1, kE8_0, kE8_1, kE8_2, kE8_3, kE8_4, kLm14_0, kLm14_1, kLm13_0, kLm13_1, kLm12_0, kLm12_1, kLm11_0, kLm11_1, kLm5_0, kLm5_1, kLm3_0, kLm3_1, kLm2_0, kLm2_1, kLm1_0, kLm1_1, kL0_0, kL0_1, kL1_0, kL1_1, kL2_0, kL2_1, kL3_0, kL3_1, kL4_0, kL4_1, kL5_0, kL5_1, kL6_0, kL6_1, kL7_0, kL7_1, kL8_0, kL8_1, if_true, if_false, sX11_readSoup_51, sX11_readSoup_52, sX11_readSoup_53, sX11_readSoup_56, decide_eq_true_eq, am_n1]
      rw [mid _ rfl]
      refine ih (t + 1) _ (by omega) (f.ua (by decide)) (fun i hi => ?_)
      rw [am_u_at]
      by_cases y : i = t
      · subst y; rw [upd_at]
      · rw [upd_ne y]; exact g i (by omega)
  simp only [eX11_readSoup, sX11_readSoup_0, sX11_readSoup_1, sX11_readSoup_2, sX11_readSoup_3]
  exact key 5 0 A rfl Fr.rf (fun i hi => absurd hi (Nat.not_lt_zero i))
end SO

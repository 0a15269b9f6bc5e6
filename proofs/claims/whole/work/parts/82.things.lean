/-! things: both -/
section TH
variable {X : Nat × (Nat → Int32)} {d : Nat} {I A : TI} {J : TJ} {w : am_W}
/-- so many are told from a place on, so is a larder then; k were told ahead -/
def thF (ln : Nat) (b : Nat → Int32) (i h : Nat) : Nat → Nat → (Nat → Int32) → Nat × (Nat → Int32)
  | 0, k, hs => (k, hs)
  | m + 1, k, hs => if i + 2 * k + 1 < ln ∧ (¬ b (i + 2 * k) < 0 ∧ b (i + 2 * k) < 8) ∧ (¬ b (i + 2 * k + 1) < 0 ∧ ¬ 9 < b (i + 2 * k + 1)) then thF ln b i h m (k + 1) (upd hs (8 * h + (b (i + 2 * k)).toNatClampNeg) (b (i + 2 * k + 1))) else (k, hs)
theorem thF_le {ln i h : Nat} {b : Nat → Int32} : ∀ (m k : Nat) (hs : Nat → Int32), k ≤ (thF ln b i h m k hs).1 ∧ (thF ln b i h m k hs).1 ≤ k + m
  | 0, k, hs => ⟨Nat.le_refl _, Nat.le_refl _⟩
  | m + 1, k, hs => by
    unfold thF
    by_cases q : i + 2 * k + 1 < ln ∧ (¬ b (i + 2 * k) < 0 ∧ b (i + 2 * k) < 8) ∧ (¬ b (i + 2 * k + 1) < 0 ∧ ¬ 9 < b (i + 2 * k + 1))
    · rw [if_pos q]
      have := thF_le (ln := ln) (i := i) (h := h) (b := b) m (k + 1) (upd hs (8 * h + (b (i + 2 * k)).toNatClampNeg) (b (i + 2 * k + 1)))
      omega
    · rw [if_neg q]
      show k ≤ k ∧ k ≤ k + (m + 1)
      omega
/-- the larders of both stay joined -/
theorem thF_has {ln i h : Nat} {b : Nat → Int32} (hh : h < 6) : ∀ (m k : Nat) (hs nu : Nat → Int32), rHas hs nu → ∃ nu' : Nat → Int32, rHas (thF ln b i h m k hs).2 nu' ∧ (∀ j, (j < 40 ∨ 88 ≤ j) → nu' j = nu j) ∧ (thF ln b i h m k (fun j => nu (40 + j))).2 = (fun j => nu' (40 + j)) ∧ (thF ln b i h m k (fun j => nu (40 + j))).1 = (thF ln b i h m k hs).1
  | 0, k, hs, nu, hr => ⟨nu, hr, fun _ _ => rfl, rfl, rfl⟩
  | m + 1, k, hs, nu, hr => by
    unfold thF
    by_cases q : i + 2 * k + 1 < ln ∧ (¬ b (i + 2 * k) < 0 ∧ b (i + 2 * k) < 8) ∧ (¬ b (i + 2 * k + 1) < 0 ∧ ¬ 9 < b (i + 2 * k + 1))
    · simp only [if_pos q]
      obtain ⟨t, ht, et⟩ := i_of (n := 8) (by decide) q.2.1.1 q.2.1.2
      obtain ⟨nu', n1, n2, n3, n4⟩ := thF_has (ln := ln) (i := i) (b := b) hh m (k + 1) (upd hs (8 * h + (b (i + 2 * k)).toNatClampNeg) (b (i + 2 * k + 1))) (upd nu (40 + (8 * h + (b (i + 2 * k)).toNatClampNeg)) (b (i + 2 * k + 1))) (has_upd hr q.2.2)
      have ef : (fun j => upd nu (40 + (8 * h + (b (i + 2 * k)).toNatClampNeg)) (b (i + 2 * k + 1)) (40 + j)) = upd (fun j => nu (40 + j)) (8 * h + (b (i + 2 * k)).toNatClampNeg) (b (i + 2 * k + 1)) := by
        funext j
        by_cases y : j = 8 * h + (b (i + 2 * k)).toNatClampNeg
        · rw [y, upd_at, upd_at]
        · rw [upd_ne y, upd_ne (by omega)]
      rw [ef] at n3 n4
      refine ⟨nu', n1, fun j hj => ?_, n3, n4⟩
      rw [n2 j hj, upd_ne]
      rw [et, am_ncl (by omega)]
      omega
    · simp only [if_neg q]
      exact ⟨nu, hr, fun _ _ => rfl, rfl, trivial⟩
theorem bySt_b {rh : Int32} {ho la so le rl : Int32} {el rel : Nat → Int64} {k : Nat} {bo : Int32} (h : rShe ho la so le rh rl el rel k bo) : (bySt rh = -11 ∧ rh = -1) ∨ (bySt rh = 0 ∧ rh = 0) ∨ (bySt rh = -12 ∧ 0 < rh ∧ ¬ rh = -1) := by
  rcases h.1 with ⟨h1, h2⟩ | ⟨h1, b, b1, b2, b3, b4⟩ | ⟨h1, s, s1, s2, s3⟩
  · left; rw [h2]; exact ⟨rfl, rfl⟩
  · right; right
    have h5 : 0 < nI (10 + b) := nI_lt (a := 0) (by omega) (by omega)
    have h6 := nk_m1 (k := 10 + b) (by omega)
    have h7 : ¬ nI (10 + b) = 0 := nI_ne0 (by omega) (by omega)
    rw [b4]
    refine ⟨?_, h5, by rw [h6]; exact fun q => q⟩
    unfold bySt
    simp only [h6, h7, if_false]
  · by_cases z : s = 0
    · right; left
      subst z
      rw [s3]; exact ⟨rfl, rfl⟩
    · right; right
      have h5 : 0 < nI s := nI_lt (a := 0) (by omega) (by omega)
      have h6 := nk_m1 (k := s) (by omega)
      have h7 : ¬ nI s = 0 := nI_ne0 (by omega) (by omega)
      rw [s3]
      refine ⟨?_, h5, by rw [h6]; exact fun q => q⟩
      unfold bySt
      simp only [h6, h7, if_false]
theorem c_toldFrom {k ln i h mo : Nat} {b : Nat → Int32} (hB : ShB I A J k ln b) (hh : h < 6) (hi : i < 2147483648) (hm : mo ≤ 20) : am_T (am_CL X (d + 3) mX10_toldFrom [.ref 0, .ref (69 + 2 * k), .int (nI i), .int (nI h), .int (nI mo)] (am_wd I A J)) (oI (nI (thF ln b i h mo 0 (A 47)).1) fun I' A' J' => I' = I ∧ J' = J ∧ A' = am_u A 47 (thF ln b i h mo 0 (A 47)).2) := by
  have hk := hB.1
  have l1 := hB.2.1
  have e1 : (1 : Int32) = nI 1 := rfl
  have key : ∀ (m t : Nat) (hs : Nat → Int32) (at_ : Int32) (z7 z8 : Value), t + m = mo → at_ = nI (i + 2 * t) → am_T (am_EV X (d + 2) mX10_toldFrom 6 [.ref 0, .ref (69 + 2 * k), .int (nI i), .int (nI h), .int (nI mo), .int (nI t), .int at_, z7, z8] [] (am_wd I (am_u A 47 hs) J)) (oI (nI (thF ln b i h m t hs).1) fun I' A' J' => I' = I ∧ J' = J ∧ A' = am_u A 47 (thF ln b i h m t hs).2) := by
    intro m
    induction m with
    | zero =>
      intro t hs at_ z7 z8 ht ea
      have tm : t = mo := by omega
      subst tm
      simp only [sX10_toldFrom_6, sX10_toldFrom_8, sX10_toldFrom_10, sX10_toldFrom_99, sX10_toldFrom_101, am_rt_some, am_rt_void, am_rt_none, am_rt_ite, ↓reduceIte, if_true, if_false, and_self, true_and, and_true, true_or, or_true, Bool.false_eq_true, reduceCtorEq, am_nlt (show t < 2147483648 by omega) (show t < 2147483648 by omega), Nat.lt_irrefl]
      exact am_T.ri ⟨rfl, rfl, rfl⟩
    | succ m ih =>
      intro t hs at_ z7 z8 ht ea
      have hB1 : ShB I (am_u A 47 hs) J k ln b := hB.fr (la := [47]) (li := []) (lj := []) (Fr.rf.ua (by decide)) (by decide) (by decide) (by decide)
      have stop : am_T (some (some (.int (nI t)), am_wd I (am_u A 47 hs) J)) (oI (nI t) fun I' A' J' => I' = I ∧ J' = J ∧ A' = am_u A 47 hs) := am_T.ri ⟨rfl, rfl, rfl⟩
      have pl : ∀ x : Int32, ∀ y : Nat, x = nI y → y < 2147483648 → (¬ x < 0 ∧ x < nI ln) = (y < ln) := by
        intro x y e hy
        subst e
        rw [am_nlt hy (show ln < 2147483648 by omega)]
        exact propext ⟨fun z => z.2, fun z => ⟨nI_pos hy, z⟩⟩
      rw [sX10_toldFrom_6]
      unfold thF
      by_cases q0 : i + 2 * t < ln
      · have h1 := pl at_ (i + 2 * t) ea (by omega)
        have ea1 : at_ + 1 = nI (i + 2 * t + 1) := by rw [ea, am_n1]
        have h2 := pl (at_ + 1) (i + 2 * t + 1) ea1 (by omega)
        simp only [sX10_toldFrom_8, sX10_toldFrom_10, sX10_toldFrom_13, sX10_toldFrom_14, sX10_toldFrom_16, sX10_toldFrom_19, sX10_toldFrom_22, sX10_toldFrom_23, sX10_toldFrom_25, sX10_toldFrom_26, sX10_toldFrom_27, am_rt_some, am_rt_void, am_rt_none, am_rt_ite, ↓reduceIte, if_true, if_false, and_self, true_and, and_true, true_or, or_true, Bool.false_eq_true, reduceCtorEq, shO hk, shF0 hk, shF1 hk, shF2 hk, shF3 hk, shF4 hk, shV0 hk, shV1 hk, shV2 hk, shV3 hk, shV4 hk, shP0 hk, shP1 hk, shP2 hk, shP3 hk, elI hk, elG hk, elS hk, elW hk, shAi hk, shIn hk, am_nlt (show t < 2147483648 by omega) (show mo < 2147483648 by omega), show t < mo by omega, c_hasPlace hk hB1.2.2.1, am_bi_eq0, h1, h2, q0, not_true_eq_false, not_false_eq_true, false_and, and_false, true_and, and_true, and_self, or_self, true_or, or_true, false_or, or_false, ite_self, kEm14_m11, kEm14_m2, kEm14_m1, kEm14_0, kEm14_1, kEm14_2, kEm14_3, kEm14_4, kEm13_m11, kEm13_m2, kEm13_m1, kEm13_0, kEm13_1, kEm13_2, kEm13_3, kEm13_4, kEm12_m11, kEm12_m2, kEm12_m1, kEm12_0, kEm12_1, kEm12_2, kEm12_3, kEm12_4, kEm11_m2, kEm11_m1, kEm11_0, kEm11_1, kEm11_2, kEm11_3, kEm11_4, kEm5_m11, kEm5_m2, kEm5_m1, kEm5_0, kEm5_1, kEm5_2, kEm5_3, kEm5_4, kEm3_m11, kEm3_m2, kEm3_m1, kEm3_0, kEm3_1, kEm3_2, kEm3_3, kEm3_4, kEm2_m11, kEm2_m1, kEm2_0, kEm2_1, kEm2_2, kEm2_3, kEm2_4, kEm1_m11, kEm1_m2, kEm1_0, kEm1_1, kEm1_2, kEm1_3, kEm1_4, kE0_m11, kE0_m2, kE0_m1, kE0_1, kE0_2, kE0_3, kE0_4, kE1_m11, kE1_m2, kE1_m1, kE1_0, kE1_2, kE1_3, kE1_4, kE2_m11, kE2_m2, kE2_m1, kE2_0, kE2_1, kE2_3, kE2_4, kE3_m11, kE3_m2, kE3_m1, kE3_0, kE3_1, kE3_2, kE3_4, kE4_m11, kE4_m2, kE4_m1, kE4_0, kE4_1, kE4_2, kE4_3, kE5_m11, kE5_m2, kE5_m1, kE5_0, kE5_1, kE5_2, kE5_3, kE5_4, kE6_m11, kE6_m2, kE6_m1, kE6_0, kE6_1, kE6_2, kE6_3, kE6_4, kE7_m11, kE7_m2, kE7_m1, kE7_0, kE7_1, kE7_2, kE7_3, kE7_4, kE8_m11, kE8_m2, kE8_m1, kE8_0, kE8_1, kE8_2, kE8_3, kE8_4, kLm14_0, kLm14_1, kLm13_0, kLm13_1, kLm12_0, kLm12_1, kLm11_0, kLm11_1, kLm5_0, kLm5_1, kLm3_0, kLm3_1, kLm2_0, kLm2_1, kLm1_0, kLm1_1, kL0_0, kL0_1, kL1_0, kL1_1, kL2_0, kL2_1, kL3_0, kL3_1, kL4_0, kL4_1, kL5_0, kL5_1, kL6_0, kL6_1, kL7_0, kL7_1, kL8_0, kL8_1]
        by_cases q1 : i + 2 * t + 1 < ln
        · have bA : am_CL X (d + 2) mX8_byteAt [.ref (69 + 2 * k), .int at_] (am_wd I (am_u A 47 hs) J) = some (some (.int (b (i + 2 * t))), am_wd I (am_u A 47 hs) J) := by rw [ea]; exact c_byteAt' hB1 q0
          have bB : am_CL X (d + 2) mX8_byteAt [.ref (69 + 2 * k), .int (at_ + 1)] (am_wd I (am_u A 47 hs) J) = some (some (.int (b (i + 2 * t + 1))), am_wd I (am_u A 47 hs) J) := by rw [ea1]; exact c_byteAt' hB1 q1
          simp only [q1, not_true_eq_false, not_false_eq_true, false_and, and_false, true_and, and_true, and_self, or_self, true_or, or_true, false_or, or_false, ite_self, kEm14_m11, kEm14_m2, kEm14_m1, kEm14_0, kEm14_1, kEm14_2, kEm14_3, kEm14_4, kEm13_m11, kEm13_m2, kEm13_m1, kEm13_0, kEm13_1, kEm13_2, kEm13_3, kEm13_4, kEm12_m11, kEm12_m2, kEm12_m1, kEm12_0, kEm12_1, kEm12_2, kEm12_3, kEm12_4, kEm11_m2, kEm11_m1, kEm11_0, kEm11_1, kEm11_2, kEm11_3, kEm11_4, kEm5_m11, kEm5_m2, kEm5_m1, kEm5_0, kEm5_1, kEm5_2, kEm5_3, kEm5_4, kEm3_m11, kEm3_m2, kEm3_m1, kEm3_0, kEm3_1, kEm3_2, kEm3_3, kEm3_4, kEm2_m11, kEm2_m1, kEm2_0, kEm2_1, kEm2_2, kEm2_3, kEm2_4, kEm1_m11, kEm1_m2, kEm1_0, kEm1_1, kEm1_2, kEm1_3, kEm1_4, kE0_m11, kE0_m2, kE0_m1, kE0_1, kE0_2, kE0_3, kE0_4, kE1_m11, kE1_m2, kE1_m1, kE1_0, kE1_2, kE1_3, kE1_4, kE2_m11, kE2_m2, kE2_m1, kE2_0, kE2_1, kE2_3, kE2_4, kE3_m11, kE3_m2, kE3_m1, kE3_0, kE3_1, kE3_2, kE3_4, kE4_m11, kE4_m2, kE4_m1, kE4_0, kE4_1, kE4_2, kE4_3, kE5_m11, kE5_m2, kE5_m1, kE5_0, kE5_1, kE5_2, kE5_3, kE5_4, kE6_m11, kE6_m2, kE6_m1, kE6_0, kE6_1, kE6_2, kE6_3, kE6_4, kE7_m11, kE7_m2, kE7_m1, kE7_0, kE7_1, kE7_2, kE7_3, kE7_4, kE8_m11, kE8_m2, kE8_m1, kE8_0, kE8_1, kE8_2, kE8_3, kE8_4, kLm14_0, kLm14_1, kLm13_0, kLm13_1, kLm12_0, kLm12_1, kLm11_0, kLm11_1, kLm5_0, kLm5_1, kLm3_0, kLm3_1, kLm2_0, kLm2_1, kLm1_0, kLm1_1, kL0_0, kL0_1, kL1_0, kL1_1, kL2_0, kL2_1, kL3_0, kL3_1, kL4_0, kL4_1, kL5_0, kL5_1, kL6_0, kL6_1, kL7_0, kL7_1, kL8_0, kL8_1, if_false, sX10_toldFrom_30, sX10_toldFrom_33, sX10_toldFrom_34, sX10_toldFrom_36, sX10_toldFrom_39, sX10_toldFrom_41, sX10_toldFrom_42, sX10_toldFrom_44, sX10_toldFrom_45, sX10_toldFrom_46, sX10_toldFrom_49, sX10_toldFrom_51, sX10_toldFrom_53, am_rt_some, am_rt_void, am_rt_none, am_rt_ite, ↓reduceIte, if_true, if_false, and_self, true_and, and_true, true_or, or_true, Bool.false_eq_true, reduceCtorEq, shO hk, shF0 hk, shF1 hk, shF2 hk, shF3 hk, shF4 hk, shV0 hk, shV1 hk, shV2 hk, shV3 hk, shV4 hk, shP0 hk, shP1 hk, shP2 hk, shP3 hk, elI hk, elG hk, elS hk, elW hk, shAi hk, shIn hk, bA, bB, c_isThing, am_bi_eq0]
          by_cases q2 : ¬ b (i + 2 * t) < 0 ∧ b (i + 2 * t) < 8
          · simp only [q2, not_true_eq_false, not_false_eq_true, false_and, and_false, true_and, and_true, and_self, or_self, true_or, or_true, false_or, or_false, ite_self, kEm14_m11, kEm14_m2, kEm14_m1, kEm14_0, kEm14_1, kEm14_2, kEm14_3, kEm14_4, kEm13_m11, kEm13_m2, kEm13_m1, kEm13_0, kEm13_1, kEm13_2, kEm13_3, kEm13_4, kEm12_m11, kEm12_m2, kEm12_m1, kEm12_0, kEm12_1, kEm12_2, kEm12_3, kEm12_4, kEm11_m2, kEm11_m1, kEm11_0, kEm11_1, kEm11_2, kEm11_3, kEm11_4, kEm5_m11, kEm5_m2, kEm5_m1, kEm5_0, kEm5_1, kEm5_2, kEm5_3, kEm5_4, kEm3_m11, kEm3_m2, kEm3_m1, kEm3_0, kEm3_1, kEm3_2, kEm3_3, kEm3_4, kEm2_m11, kEm2_m1, kEm2_0, kEm2_1, kEm2_2, kEm2_3, kEm2_4, kEm1_m11, kEm1_m2, kEm1_0, kEm1_1, kEm1_2, kEm1_3, kEm1_4, kE0_m11, kE0_m2, kE0_m1, kE0_1, kE0_2, kE0_3, kE0_4, kE1_m11, kE1_m2, kE1_m1, kE1_0, kE1_2, kE1_3, kE1_4, kE2_m11, kE2_m2, kE2_m1, kE2_0, kE2_1, kE2_3, kE2_4, kE3_m11, kE3_m2, kE3_m1, kE3_0, kE3_1, kE3_2, kE3_4, kE4_m11, kE4_m2, kE4_m1, kE4_0, kE4_1, kE4_2, kE4_3, kE5_m11, kE5_m2, kE5_m1, kE5_0, kE5_1, kE5_2, kE5_3, kE5_4, kE6_m11, kE6_m2, kE6_m1, kE6_0, kE6_1, kE6_2, kE6_3, kE6_4, kE7_m11, kE7_m2, kE7_m1, kE7_0, kE7_1, kE7_2, kE7_3, kE7_4, kE8_m11, kE8_m2, kE8_m1, kE8_0, kE8_1, kE8_2, kE8_3, kE8_4, kLm14_0, kLm14_1, kLm13_0, kLm13_1, kLm12_0, kLm12_1, kLm11_0, kLm11_1, kLm5_0, kLm5_1, kLm3_0, kLm3_1, kLm2_0, kLm2_1, kLm1_0, kLm1_1, kL0_0, kL0_1, kL1_0, kL1_1, kL2_0, kL2_1, kL3_0, kL3_1, kL4_0, kL4_1, kL5_0, kL5_1, kL6_0, kL6_1, kL7_0, kL7_1, kL8_0, kL8_1, if_false, sX10_toldFrom_56, sX10_toldFrom_59, sX10_toldFrom_61]
            by_cases q3 : b (i + 2 * t + 1) < 0
            · simp only [q3, not_true_eq_false, not_false_eq_true, false_and, and_false, true_and, and_true, and_self, or_self, true_or, or_true, false_or, or_false, ite_self, kEm14_m11, kEm14_m2, kEm14_m1, kEm14_0, kEm14_1, kEm14_2, kEm14_3, kEm14_4, kEm13_m11, kEm13_m2, kEm13_m1, kEm13_0, kEm13_1, kEm13_2, kEm13_3, kEm13_4, kEm12_m11, kEm12_m2, kEm12_m1, kEm12_0, kEm12_1, kEm12_2, kEm12_3, kEm12_4, kEm11_m2, kEm11_m1, kEm11_0, kEm11_1, kEm11_2, kEm11_3, kEm11_4, kEm5_m11, kEm5_m2, kEm5_m1, kEm5_0, kEm5_1, kEm5_2, kEm5_3, kEm5_4, kEm3_m11, kEm3_m2, kEm3_m1, kEm3_0, kEm3_1, kEm3_2, kEm3_3, kEm3_4, kEm2_m11, kEm2_m1, kEm2_0, kEm2_1, kEm2_2, kEm2_3, kEm2_4, kEm1_m11, kEm1_m2, kEm1_0, kEm1_1, kEm1_2, kEm1_3, kEm1_4, kE0_m11, kE0_m2, kE0_m1, kE0_1, kE0_2, kE0_3, kE0_4, kE1_m11, kE1_m2, kE1_m1, kE1_0, kE1_2, kE1_3, kE1_4, kE2_m11, kE2_m2, kE2_m1, kE2_0, kE2_1, kE2_3, kE2_4, kE3_m11, kE3_m2, kE3_m1, kE3_0, kE3_1, kE3_2, kE3_4, kE4_m11, kE4_m2, kE4_m1, kE4_0, kE4_1, kE4_2, kE4_3, kE5_m11, kE5_m2, kE5_m1, kE5_0, kE5_1, kE5_2, kE5_3, kE5_4, kE6_m11, kE6_m2, kE6_m1, kE6_0, kE6_1, kE6_2, kE6_3, kE6_4, kE7_m11, kE7_m2, kE7_m1, kE7_0, kE7_1, kE7_2, kE7_3, kE7_4, kE8_m11, kE8_m2, kE8_m1, kE8_0, kE8_1, kE8_2, kE8_3, kE8_4, kLm14_0, kLm14_1, kLm13_0, kLm13_1, kLm12_0, kLm12_1, kLm11_0, kLm11_1, kLm5_0, kLm5_1, kLm3_0, kLm3_1, kLm2_0, kLm2_1, kLm1_0, kLm1_1, kL0_0, kL0_1, kL1_0, kL1_1, kL2_0, kL2_1, kL3_0, kL3_1, kL4_0, kL4_1, kL5_0, kL5_1, kL6_0, kL6_1, kL7_0, kL7_1, kL8_0, kL8_1, if_true, sX10_toldFrom_99, sX10_toldFrom_101]
              exact stop
            · by_cases q4 : 9 < b (i + 2 * t + 1)
              · simp only [q3, q4, not_true_eq_false, not_false_eq_true, false_and, and_false, true_and, and_true, and_self, or_self, true_or, or_true, false_or, or_false, ite_self, kEm14_m11, kEm14_m2, kEm14_m1, kEm14_0, kEm14_1, kEm14_2, kEm14_3, kEm14_4, kEm13_m11, kEm13_m2, kEm13_m1, kEm13_0, kEm13_1, kEm13_2, kEm13_3, kEm13_4, kEm12_m11, kEm12_m2, kEm12_m1, kEm12_0, kEm12_1, kEm12_2, kEm12_3, kEm12_4, kEm11_m2, kEm11_m1, kEm11_0, kEm11_1, kEm11_2, kEm11_3, kEm11_4, kEm5_m11, kEm5_m2, kEm5_m1, kEm5_0, kEm5_1, kEm5_2, kEm5_3, kEm5_4, kEm3_m11, kEm3_m2, kEm3_m1, kEm3_0, kEm3_1, kEm3_2, kEm3_3, kEm3_4, kEm2_m11, kEm2_m1, kEm2_0, kEm2_1, kEm2_2, kEm2_3, kEm2_4, kEm1_m11, kEm1_m2, kEm1_0, kEm1_1, kEm1_2, kEm1_3, kEm1_4, kE0_m11, kE0_m2, kE0_m1, kE0_1, kE0_2, kE0_3, kE0_4, kE1_m11, kE1_m2, kE1_m1, kE1_0, kE1_2, kE1_3, kE1_4, kE2_m11, kE2_m2, kE2_m1, kE2_0, kE2_1, kE2_3, kE2_4, kE3_m11, kE3_m2, kE3_m1, kE3_0, kE3_1, kE3_2, kE3_4, kE4_m11, kE4_m2, kE4_m1, kE4_0, kE4_1, kE4_2, kE4_3, kE5_m11, kE5_m2, kE5_m1, kE5_0, kE5_1, kE5_2, kE5_3, kE5_4, kE6_m11, kE6_m2, kE6_m1, kE6_0, kE6_1, kE6_2, kE6_3, kE6_4, kE7_m11, kE7_m2, kE7_m1, kE7_0, kE7_1, kE7_2, kE7_3, kE7_4, kE8_m11, kE8_m2, kE8_m1, kE8_0, kE8_1, kE8_2, kE8_3, kE8_4, kLm14_0, kLm14_1, kLm13_0, kLm13_1, kLm12_0, kLm12_1, kLm11_0, kLm11_1, kLm5_0, kLm5_1, kLm3_0, kLm3_1, kLm2_0, kLm2_1, kLm1_0, kLm1_1, kL0_0, kL0_1, kL1_0, kL1_1, kL2_0, kL2_1, kL3_0, kL3_1, kL4_0, kL4_1, kL5_0, kL5_1, kL6_0, kL6_1, kL7_0, kL7_1, kL8_0, kL8_1, if_true, if_false, sX10_toldFrom_64, sX10_toldFrom_66, sX10_toldFrom_68, sX10_toldFrom_71, sX10_toldFrom_99, sX10_toldFrom_101]
                exact stop
              · obtain ⟨x, hx, ex⟩ := i_of (n := 8) (by decide) q2.1 q2.2
                have hx2 : (b (i + 2 * t)).toNatClampNeg = x := by rw [ex, am_ncl (by omega)]
                rw [hx2]
                have e2 : at_ + 2 = nI (i + 2 * (t + 1)) := by rw [ea, show (2 : Int32) = nI 2 from rfl, i_add]; rfl
                have nx := ih (t + 1) (upd hs (8 * h + x) (b (i + 2 * t + 1))) (at_ + 2) (.int (nI x)) (.int (b (i + 2 * t + 1))) (by omega) e2
                simp only [q3, q4, not_true_eq_false, not_false_eq_true, false_and, and_false, true_and, and_true, and_self, or_self, true_or, or_true, false_or, or_false, ite_self, kEm14_m11, kEm14_m2, kEm14_m1, kEm14_0, kEm14_1, kEm14_2, kEm14_3, kEm14_4, kEm13_m11, kEm13_m2, kEm13_m1, kEm13_0, kEm13_1, kEm13_2, kEm13_3, kEm13_4, kEm12_m11, kEm12_m2, kEm12_m1, kEm12_0, kEm12_1, kEm12_2, kEm12_3, kEm12_4, kEm11_m2, kEm11_m1, kEm11_0, kEm11_1, kEm11_2, kEm11_3, kEm11_4, kEm5_m11, kEm5_m2, kEm5_m1, kEm5_0, kEm5_1, kEm5_2, kEm5_3, kEm5_4, kEm3_m11, kEm3_m2, kEm3_m1, kEm3_0, kEm3_1, kEm3_2, kEm3_3, kEm3_4, kEm2_m11, kEm2_m1, kEm2_0, kEm2_1, kEm2_2, kEm2_3, kEm2_4, kEm1_m11, kEm1_m2, kEm1_0, kEm1_1, kEm1_2, kEm1_3, kEm1_4, kE0_m11, kE0_m2, kE0_m1, kE0_1, kE0_2, kE0_3, kE0_4, kE1_m11, kE1_m2, kE1_m1, kE1_0, kE1_2, kE1_3, kE1_4, kE2_m11, kE2_m2, kE2_m1, kE2_0, kE2_1, kE2_3, kE2_4, kE3_m11, kE3_m2, kE3_m1, kE3_0, kE3_1, kE3_2, kE3_4, kE4_m11, kE4_m2, kE4_m1, kE4_0, kE4_1, kE4_2, kE4_3, kE5_m11, kE5_m2, kE5_m1, kE5_0, kE5_1, kE5_2, kE5_3, kE5_4, kE6_m11, kE6_m2, kE6_m1, kE6_0, kE6_1, kE6_2, kE6_3, kE6_4, kE7_m11, kE7_m2, kE7_m1, kE7_0, kE7_1, kE7_2, kE7_3, kE7_4, kE8_m11, kE8_m2, kE8_m1, kE8_0, kE8_1, kE8_2, kE8_3, kE8_4, kLm14_0, kLm14_1, kLm13_0, kLm13_1, kLm12_0, kLm12_1, kLm11_0, kLm11_1, kLm5_0, kLm5_1, kLm3_0, kLm3_1, kLm2_0, kLm2_1, kLm1_0, kLm1_1, kL0_0, kL0_1, kL1_0, kL1_1, kL2_0, kL2_1, kL3_0, kL3_1, kL4_0, kL4_1, kL5_0, kL5_1, kL6_0, kL6_1, kL7_0, kL7_1, kL8_0, kL8_1, if_true, if_false, ex, sX10_toldFrom_64, sX10_toldFrom_66, sX10_toldFrom_68, sX10_toldFrom_71, sX10_toldFrom_74, sX10_toldFrom_75, sX10_toldFrom_78, sX10_toldFrom_81, sX10_toldFrom_82, sX10_toldFrom_84, sX10_toldFrom_87, sX10_toldFrom_89, sX10_toldFrom_90, sX10_toldFrom_93, sX10_toldFrom_96, wo_0, wf_0_0, wv_0_0, wf_0_1, wv_0_1, wf_0_2, wv_0_2, wf_0_3, wv_0_3, wf_0_4, wv_0_4, wf_0_5, wv_0_5, wf_0_6, wv_0_6, wf_0_7, wv_0_7, wf_0_8, wv_0_8, wf_0_9, wv_0_9, wp_0_9, wf_0_10, wv_0_10, wp_0_10, wf_0_11, wv_0_11, wp_0_11, wo_46, wf_46_0, wv_46_0, wf_46_1, wv_46_1, wf_46_2, wv_46_2, wf_46_3, wv_46_3, wp_46_3, wi_47, wg_47, ws_47, ww_47, wl_47, wn_47, am_rt_some, am_rt_void, am_rt_none, am_rt_ite, ↓reduceIte, if_true, if_false, and_self, true_and, and_true, true_or, or_true, Bool.false_eq_true, reduceCtorEq, c_larder, i85, am_nin (show 8 * h + x < 48 by omega) (show (48 : Nat) < 2147483648 by omega), am_ncl (show 8 * h + x < 2147483648 by omega), am_u_at, am_uu, am_n1, nI_pos (show x < 2 ^ 31 by omega), show nI x < 8 from nI_lt (b := 8) hx (by decide)]
                exact nx
          · simp only [q2, not_true_eq_false, not_false_eq_true, false_and, and_false, true_and, and_true, and_self, or_self, true_or, or_true, false_or, or_false, ite_self, kEm14_m11, kEm14_m2, kEm14_m1, kEm14_0, kEm14_1, kEm14_2, kEm14_3, kEm14_4, kEm13_m11, kEm13_m2, kEm13_m1, kEm13_0, kEm13_1, kEm13_2, kEm13_3, kEm13_4, kEm12_m11, kEm12_m2, kEm12_m1, kEm12_0, kEm12_1, kEm12_2, kEm12_3, kEm12_4, kEm11_m2, kEm11_m1, kEm11_0, kEm11_1, kEm11_2, kEm11_3, kEm11_4, kEm5_m11, kEm5_m2, kEm5_m1, kEm5_0, kEm5_1, kEm5_2, kEm5_3, kEm5_4, kEm3_m11, kEm3_m2, kEm3_m1, kEm3_0, kEm3_1, kEm3_2, kEm3_3, kEm3_4, kEm2_m11, kEm2_m1, kEm2_0, kEm2_1, kEm2_2, kEm2_3, kEm2_4, kEm1_m11, kEm1_m2, kEm1_0, kEm1_1, kEm1_2, kEm1_3, kEm1_4, kE0_m11, kE0_m2, kE0_m1, kE0_1, kE0_2, kE0_3, kE0_4, kE1_m11, kE1_m2, kE1_m1, kE1_0, kE1_2, kE1_3, kE1_4, kE2_m11, kE2_m2, kE2_m1, kE2_0, kE2_1, kE2_3, kE2_4, kE3_m11, kE3_m2, kE3_m1, kE3_0, kE3_1, kE3_2, kE3_4, kE4_m11, kE4_m2, kE4_m1, kE4_0, kE4_1, kE4_2, kE4_3, kE5_m11, kE5_m2, kE5_m1, kE5_0, kE5_1, kE5_2, kE5_3, kE5_4, kE6_m11, kE6_m2, kE6_m1, kE6_0, kE6_1, kE6_2, kE6_3, kE6_4, kE7_m11, kE7_m2, kE7_m1, kE7_0, kE7_1, kE7_2, kE7_3, kE7_4, kE8_m11, kE8_m2, kE8_m1, kE8_0, kE8_1, kE8_2, kE8_3, kE8_4, kLm14_0, kLm14_1, kLm13_0, kLm13_1, kLm12_0, kLm12_1, kLm11_0, kLm11_1, kLm5_0, kLm5_1, kLm3_0, kLm3_1, kLm2_0, kLm2_1, kLm1_0, kLm1_1, kL0_0, kL0_1, kL1_0, kL1_1, kL2_0, kL2_1, kL3_0, kL3_1, kL4_0, kL4_1, kL5_0, kL5_1, kL6_0, kL6_1, kL7_0, kL7_1, kL8_0, kL8_1, if_true, sX10_toldFrom_56, sX10_toldFrom_99, sX10_toldFrom_101]
            exact stop
        · simp only [q1, not_true_eq_false, not_false_eq_true, false_and, and_false, true_and, and_true, and_self, or_self, true_or, or_true, false_or, or_false, ite_self, kEm14_m11, kEm14_m2, kEm14_m1, kEm14_0, kEm14_1, kEm14_2, kEm14_3, kEm14_4, kEm13_m11, kEm13_m2, kEm13_m1, kEm13_0, kEm13_1, kEm13_2, kEm13_3, kEm13_4, kEm12_m11, kEm12_m2, kEm12_m1, kEm12_0, kEm12_1, kEm12_2, kEm12_3, kEm12_4, kEm11_m2, kEm11_m1, kEm11_0, kEm11_1, kEm11_2, kEm11_3, kEm11_4, kEm5_m11, kEm5_m2, kEm5_m1, kEm5_0, kEm5_1, kEm5_2, kEm5_3, kEm5_4, kEm3_m11, kEm3_m2, kEm3_m1, kEm3_0, kEm3_1, kEm3_2, kEm3_3, kEm3_4, kEm2_m11, kEm2_m1, kEm2_0, kEm2_1, kEm2_2, kEm2_3, kEm2_4, kEm1_m11, kEm1_m2, kEm1_0, kEm1_1, kEm1_2, kEm1_3, kEm1_4, kE0_m11, kE0_m2, kE0_m1, kE0_1, kE0_2, kE0_3, kE0_4, kE1_m11, kE1_m2, kE1_m1, kE1_0, kE1_2, kE1_3, kE1_4, kE2_m11, kE2_m2, kE2_m1, kE2_0, kE2_1, kE2_3, kE2_4, kE3_m11, kE3_m2, kE3_m1, kE3_0, kE3_1, kE3_2, kE3_4, kE4_m11, kE4_m2, kE4_m1, kE4_0, kE4_1, kE4_2, kE4_3, kE5_m11, kE5_m2, kE5_m1, kE5_0, kE5_1, kE5_2, kE5_3, kE5_4, kE6_m11, kE6_m2, kE6_m1, kE6_0, kE6_1, kE6_2, kE6_3, kE6_4, kE7_m11, kE7_m2, kE7_m1, kE7_0, kE7_1, kE7_2, kE7_3, kE7_4, kE8_m11, kE8_m2, kE8_m1, kE8_0, kE8_1, kE8_2, kE8_3, kE8_4, kLm14_0, kLm14_1, kLm13_0, kLm13_1, kLm12_0, kLm12_1, kLm11_0, kLm11_1, kLm5_0, kLm5_1, kLm3_0, kLm3_1, kLm2_0, kLm2_1, kLm1_0, kLm1_1, kL0_0, kL0_1, kL1_0, kL1_1, kL2_0, kL2_1, kL3_0, kL3_1, kL4_0, kL4_1, kL5_0, kL5_1, kL6_0, kL6_1, kL7_0, kL7_1, kL8_0, kL8_1, if_true, sX10_toldFrom_30, sX10_toldFrom_99, sX10_toldFrom_101]
          exact stop
      · have h1 : ¬ (¬ at_ < 0 ∧ at_ < nI ln) := by
          rw [ea]
          by_cases y : i + 2 * t < 2147483648
          · rw [pl _ _ rfl y]; exact q0
          · intro ⟨z1, z2⟩
            have e3 : (nI (i + 2 * t)).toInt = (i + 2 * t : Int) - 4294967296 := by
              unfold nI
              rw [Int32.toInt_ofNat']
              have : ((i + 2 * t : Nat) : Int).bmod (2 ^ 32) = ((i + 2 * t : Nat) : Int) - 4294967296 := by
                rw [Int.bmod_def]
                omega
              rw [this]; omega
            have z3 : ¬ (nI (i + 2 * t)).toInt < (0 : Int32).toInt := mt Int32.lt_iff_toInt_lt.mpr z1
            have z4 : (0 : Int32).toInt = 0 := rfl
            rw [e3, z4] at z3
            omega
        rw [if_neg (fun y => absurd y.1 (by omega))]
        simp only [sX10_toldFrom_8, sX10_toldFrom_10, sX10_toldFrom_13, sX10_toldFrom_14, sX10_toldFrom_16, sX10_toldFrom_19, am_rt_some, am_rt_void, am_rt_none, am_rt_ite, ↓reduceIte, if_true, if_false, and_self, true_and, and_true, true_or, or_true, Bool.false_eq_true, reduceCtorEq, shO hk, shF0 hk, shF1 hk, shF2 hk, shF3 hk, shF4 hk, shV0 hk, shV1 hk, shV2 hk, shV3 hk, shV4 hk, shP0 hk, shP1 hk, shP2 hk, shP3 hk, elI hk, elG hk, elS hk, elW hk, shAi hk, shIn hk, am_nlt (show t < 2147483648 by omega) (show mo < 2147483648 by omega), show t < mo by omega, c_hasPlace hk hB1.2.2.1, am_bi_eq0, h1, not_true_eq_false, not_false_eq_true, false_and, and_false, true_and, and_true, and_self, or_self, true_or, or_true, false_or, or_false, ite_self, kEm14_m11, kEm14_m2, kEm14_m1, kEm14_0, kEm14_1, kEm14_2, kEm14_3, kEm14_4, kEm13_m11, kEm13_m2, kEm13_m1, kEm13_0, kEm13_1, kEm13_2, kEm13_3, kEm13_4, kEm12_m11, kEm12_m2, kEm12_m1, kEm12_0, kEm12_1, kEm12_2, kEm12_3, kEm12_4, kEm11_m2, kEm11_m1, kEm11_0, kEm11_1, kEm11_2, kEm11_3, kEm11_4, kEm5_m11, kEm5_m2, kEm5_m1, kEm5_0, kEm5_1, kEm5_2, kEm5_3, kEm5_4, kEm3_m11, kEm3_m2, kEm3_m1, kEm3_0, kEm3_1, kEm3_2, kEm3_3, kEm3_4, kEm2_m11, kEm2_m1, kEm2_0, kEm2_1, kEm2_2, kEm2_3, kEm2_4, kEm1_m11, kEm1_m2, kEm1_0, kEm1_1, kEm1_2, kEm1_3, kEm1_4, kE0_m11, kE0_m2, kE0_m1, kE0_1, kE0_2, kE0_3, kE0_4, kE1_m11, kE1_m2, kE1_m1, kE1_0, kE1_2, kE1_3, kE1_4, kE2_m11, kE2_m2, kE2_m1, kE2_0, kE2_1, kE2_3, kE2_4, kE3_m11, kE3_m2, kE3_m1, kE3_0, kE3_1, kE3_2, kE3_4, kE4_m11, kE4_m2, kE4_m1, kE4_0, kE4_1, kE4_2, kE4_3, kE5_m11, kE5_m2, kE5_m1, kE5_0, kE5_1, kE5_2, kE5_3, kE5_4, kE6_m11, kE6_m2, kE6_m1, kE6_0, kE6_1, kE6_2, kE6_3, kE6_4, kE7_m11, kE7_m2, kE7_m1, kE7_0, kE7_1, kE7_2, kE7_3, kE7_4, kE8_m11, kE8_m2, kE8_m1, kE8_0, kE8_1, kE8_2, kE8_3, kE8_4, kLm14_0, kLm14_1, kLm13_0, kLm13_1, kLm12_0, kLm12_1, kLm11_0, kLm11_1, kLm5_0, kLm5_1, kLm3_0, kLm3_1, kLm2_0, kLm2_1, kLm1_0, kLm1_1, kL0_0, kL0_1, kL1_0, kL1_1, kL2_0, kL2_1, kL3_0, kL3_1, kL4_0, kL4_1, kL5_0, kL5_1, kL6_0, kL6_1, kL7_0, kL7_1, kL8_0, kL8_1, sX10_toldFrom_99, sX10_toldFrom_101]
        exact stop
  simp only [eX10_toldFrom, sX10_toldFrom_0, sX10_toldFrom_1, sX10_toldFrom_3, sX10_toldFrom_4]
  have := key mo 0 (A 47) (nI i) (.retAddr 0) (.retAddr 0) (by omega) rfl
  rw [am_uid] at this
  exact this
end TH

/-! Arrays.fill, Integer.bitCount; the class's little tests -/
section C41
variable {X : Nat × (Nat → Int32)} {d : Nat} {I A : Nat → Nat → Int32} {J : Nat → Nat → Int64} {w : am_W}
def am_flI (n : Nat) (v : Int32) (f : Nat → Int32) : Nat → Int32 := fun j => if j < n then v else f j
def am_flJ (n : Nat) (v : Int64) (f : Nat → Int64) : Nat → Int64 := fun j => if j < n then v else f j
theorem c_fillI {a n : Nat} {f : Nat → Int32} {v : Int32} (hn : n < 1000) (ha : am_rd w a = .inl (0, n, .inl f)) : am_CL X (d + 1) mJ7_fill_53178 [.ref a, .int v] w = some (none, am_wr w a (.inl (0, n, .inl (am_flI n v f)))) := by
  have key : ∀ (m k : Nat) (w' : am_W) (g : Nat → Int32), k + m = n → am_rd w' a = .inl (0, n, .inl g) → am_EV X d mJ7_fill_53178 5 [.ref a, .int v, .int (nI k), .int (nI n)] [] w' = some (none, am_wr w' a (.inl (0, n, .inl (fun j => if k ≤ j ∧ j < n then v else g j)))) := by
    intro m
    induction m with
    | zero =>
      intro k w' g hk hr
      have hkn : ¬ k < n := by omega
      simp only [sJ7_fill_53178_5, sJ7_fill_53178_6, sJ7_fill_53178_7, sJ7_fill_53178_20, am_rt_some, am_rt_void, am_rt_none, am_rt_ite, ↓reduceIte, if_true, if_false, and_self, true_and, and_true, true_or, or_true, Bool.false_eq_true, reduceCtorEq, am_nlt (show k < 2147483648 by omega) (show n < 2147483648 by omega), hkn]
      rw [show (fun j => if k ≤ j ∧ j < n then v else g j) = g by funext j; rw [if_neg (by omega)], am_w0 hr]
    | succ m ih =>
      intro k w' g hk hr
      have hkn : k < n := by omega
      rw [sJ7_fill_53178_5]
      simp only [sJ7_fill_53178_6, sJ7_fill_53178_7, sJ7_fill_53178_10, sJ7_fill_53178_11, sJ7_fill_53178_12, sJ7_fill_53178_13, sJ7_fill_53178_14, sJ7_fill_53178_17, am_rt_some, am_rt_void, am_rt_none, am_rt_ite, ↓reduceIte, if_true, if_false, and_self, true_and, and_true, true_or, or_true, Bool.false_eq_true, reduceCtorEq, am_nlt (show k < 2147483648 by omega) (show n < 2147483648 by omega), hkn, hr, am_isI, am_seI, am_nin hkn (show n < 2147483648 by omega), beq_self_eq_true, Bool.and_self, am_ncl (show k < 2147483648 by omega), am_n1]
      rw [ih (k + 1) _ (upd g k v) (by omega) am_rw, am_ww]
      refine congrArg (fun q => some (none, am_wr w' a (.inl (0, n, .inl q)))) ?_
      funext j
      unfold upd
      by_cases h1 : j = k
      · subst h1
        rw [if_neg (by omega), if_pos rfl, if_pos (by omega)]
      · by_cases h2 : k + 1 ≤ j ∧ j < n
        · rw [if_pos h2, if_pos (by omega)]
        · rw [if_neg h2, if_neg h1, if_neg (by omega)]
  simp only [eJ7_fill_53178, sJ7_fill_53178_0, sJ7_fill_53178_1, sJ7_fill_53178_2, sJ7_fill_53178_3, sJ7_fill_53178_4, am_rt_some, am_rt_void, am_rt_none, am_rt_ite, ↓reduceIte, if_true, if_false, and_self, true_and, and_true, true_or, or_true, Bool.false_eq_true, reduceCtorEq, ha, am_isL, am_len, show decide (0 < 5) = true from rfl]
  rw [show (0 : Int32) = nI 0 from rfl, show Int32.ofNat n = nI n from rfl, key n 0 w f (by omega) ha]
  rw [show (fun j => if 0 ≤ j ∧ j < n then v else f j) = am_flI n v f by funext j; simp [am_flI]]
theorem c_fillJ {a n : Nat} {f : Nat → Int64} {v : Int64} (hn : n < 1000) (ha : am_rd w a = .inl (1, n, .inr (.inl f))) : am_CL X (d + 1) mJ7_fill_d0a16 [.ref a, .long v] w = some (none, am_wr w a (.inl (1, n, .inr (.inl (am_flJ n v f))))) := by
  have key : ∀ (m k : Nat) (w' : am_W) (g : Nat → Int64), k + m = n → am_rd w' a = .inl (1, n, .inr (.inl g)) → am_EV X d mJ7_fill_d0a16 6 [.ref a, .long v, .retAddr 0, .int (nI k), .int (nI n)] [] w' = some (none, am_wr w' a (.inl (1, n, .inr (.inl (fun j => if k ≤ j ∧ j < n then v else g j))))) := by
    intro m
    induction m with
    | zero =>
      intro k w' g hk hr
      have hkn : ¬ k < n := by omega
      simp only [sJ7_fill_d0a16_6, sJ7_fill_d0a16_7, sJ7_fill_d0a16_9, sJ7_fill_d0a16_22, am_rt_some, am_rt_void, am_rt_none, am_rt_ite, ↓reduceIte, if_true, if_false, and_self, true_and, and_true, true_or, or_true, Bool.false_eq_true, reduceCtorEq, am_nlt (show k < 2147483648 by omega) (show n < 2147483648 by omega), hkn]
      rw [show (fun j => if k ≤ j ∧ j < n then v else g j) = g by funext j; rw [if_neg (by omega)], am_w0 hr]
    | succ m ih =>
      intro k w' g hk hr
      have hkn : k < n := by omega
      rw [sJ7_fill_d0a16_6]
      simp only [sJ7_fill_d0a16_7, sJ7_fill_d0a16_9, sJ7_fill_d0a16_12, sJ7_fill_d0a16_13, sJ7_fill_d0a16_14, sJ7_fill_d0a16_15, sJ7_fill_d0a16_16, sJ7_fill_d0a16_19, am_rt_some, am_rt_void, am_rt_none, am_rt_ite, ↓reduceIte, if_true, if_false, and_self, true_and, and_true, true_or, or_true, Bool.false_eq_true, reduceCtorEq, am_nlt (show k < 2147483648 by omega) (show n < 2147483648 by omega), hkn, hr, am_isJ, am_seJ, am_nin hkn (show n < 2147483648 by omega), beq_self_eq_true, Bool.and_self, am_ncl (show k < 2147483648 by omega), am_n1]
      rw [ih (k + 1) _ (vp_updL g k v) (by omega) am_rw, am_ww]
      refine congrArg (fun q => some (none, am_wr w' a (.inl (1, n, .inr (.inl q))))) ?_
      funext j
      unfold vp_updL
      by_cases h1 : j = k
      · subst h1
        rw [if_neg (by omega), if_pos rfl, if_pos (by omega)]
      · by_cases h2 : k + 1 ≤ j ∧ j < n
        · rw [if_pos h2, if_pos (by omega)]
        · rw [if_neg h2, if_neg h1, if_neg (by omega)]
  simp only [eJ7_fill_d0a16, sJ7_fill_d0a16_0, sJ7_fill_d0a16_1, sJ7_fill_d0a16_2, sJ7_fill_d0a16_3, sJ7_fill_d0a16_4, am_rt_some, am_rt_void, am_rt_none, am_rt_ite, ↓reduceIte, if_true, if_false, and_self, true_and, and_true, true_or, or_true, Bool.false_eq_true, reduceCtorEq, ha, am_isL, am_len, show decide (1 < 5) = true from rfl]
  rw [show (0 : Int32) = nI 0 from rfl, show Int32.ofNat n = nI n from rfl, key n 0 w f (by omega) ha]
  rw [show (fun j => if 0 ≤ j ∧ j < n then v else f j) = am_flJ n v f by funext j; simp [am_flJ]]
def am_bc (x : Int32) : Int32 :=
  let a := x - ((x.toUInt32 >>> ((1 : Int32).toUInt32 &&& Int32.toUInt32 31)).toInt32 &&& 1431655765)
  let b := (a &&& 858993459) + ((a.toUInt32 >>> ((2 : Int32).toUInt32 &&& Int32.toUInt32 31)).toInt32 &&& 858993459)
  let c := (b + (b.toUInt32 >>> ((4 : Int32).toUInt32 &&& Int32.toUInt32 31)).toInt32) &&& 252645135
  let e := c + (c.toUInt32 >>> ((8 : Int32).toUInt32 &&& Int32.toUInt32 31)).toInt32
  let f := e + (e.toUInt32 >>> ((16 : Int32).toUInt32 &&& Int32.toUInt32 31)).toInt32
  f &&& 63
theorem c_bitCount {x : Int32} : am_CL X (d + 1) mJ6_bitCount_0f7a4 [.int x] w = some (some (.int (am_bc x)), w) := by
  simp only [eJ6_bitCount_0f7a4, sJ6_bitCount_0f7a4_0, sJ6_bitCount_0f7a4_1, sJ6_bitCount_0f7a4_2, sJ6_bitCount_0f7a4_3, sJ6_bitCount_0f7a4_4, sJ6_bitCount_0f7a4_7, sJ6_bitCount_0f7a4_8, sJ6_bitCount_0f7a4_9, sJ6_bitCount_0f7a4_10, sJ6_bitCount_0f7a4_11, sJ6_bitCount_0f7a4_14, sJ6_bitCount_0f7a4_15, sJ6_bitCount_0f7a4_16, sJ6_bitCount_0f7a4_17, sJ6_bitCount_0f7a4_18, sJ6_bitCount_0f7a4_21, sJ6_bitCount_0f7a4_22, sJ6_bitCount_0f7a4_23, sJ6_bitCount_0f7a4_24, sJ6_bitCount_0f7a4_25, sJ6_bitCount_0f7a4_26, sJ6_bitCount_0f7a4_27, sJ6_bitCount_0f7a4_28, sJ6_bitCount_0f7a4_29, sJ6_bitCount_0f7a4_32, sJ6_bitCount_0f7a4_33, sJ6_bitCount_0f7a4_34, sJ6_bitCount_0f7a4_35, sJ6_bitCount_0f7a4_36, sJ6_bitCount_0f7a4_38, sJ6_bitCount_0f7a4_39, sJ6_bitCount_0f7a4_40, sJ6_bitCount_0f7a4_41, sJ6_bitCount_0f7a4_42, sJ6_bitCount_0f7a4_43, sJ6_bitCount_0f7a4_45, sJ6_bitCount_0f7a4_46, sJ6_bitCount_0f7a4_47, sJ6_bitCount_0f7a4_48, sJ6_bitCount_0f7a4_49, sJ6_bitCount_0f7a4_51, sJ6_bitCount_0f7a4_52, am_rt_some, am_rt_void, am_rt_none, am_rt_ite, ↓reduceIte, if_true, if_false, and_self, true_and, and_true, true_or, or_true, Bool.false_eq_true, reduceCtorEq]
  rfl
theorem c_isThing {h : Int32} : am_CL X (d + 1) mX10_isThing [.int h] w = some (some (.int (if ¬ h < 0 ∧ h < 8 then 1 else 0)), w) := by
  simp only [eX10_isThing, sX10_isThing_0, sX10_isThing_1, sX10_isThing_4, sX10_isThing_5, sX10_isThing_7, sX10_isThing_10, sX10_isThing_11, sX10_isThing_14, sX10_isThing_15, am_rt_some, am_rt_void, am_rt_none, am_rt_ite, ↓reduceIte, if_true, if_false, and_self, true_and, and_true, true_or, or_true, Bool.false_eq_true, reduceCtorEq]
  by_cases h1 : h < 0 <;> by_cases h2 : h < 8 <;> simp only [h1, h2, not_true_eq_false, not_false_eq_true, and_true, true_and, and_false, false_and, if_true, if_false, and_self]
theorem c_isShelf {h : Int32} : am_CL X (d + 1) mX10_isShelf [.int h] w = some (some (.int (if ¬ h < 0 ∧ h < 6 then 1 else 0)), w) := by
  simp only [eX10_isShelf, sX10_isShelf_0, sX10_isShelf_1, sX10_isShelf_4, sX10_isShelf_5, sX10_isShelf_7, sX10_isShelf_10, sX10_isShelf_11, sX10_isShelf_14, sX10_isShelf_15, am_rt_some, am_rt_void, am_rt_none, am_rt_ite, ↓reduceIte, if_true, if_false, and_self, true_and, and_true, true_or, or_true, Bool.false_eq_true, reduceCtorEq]
  by_cases h1 : h < 0 <;> by_cases h2 : h < 6 <;> simp only [h1, h2, not_true_eq_false, not_false_eq_true, and_true, true_and, and_false, false_and, if_true, if_false, and_self]
theorem c_isHouse {h : Int32} : am_CL X (d + 1) mX10_isHouse [.ref 0, .int h] (am_wd I A J) = some (some (.int (if ¬ h < 0 ∧ h < I 0 9 then 1 else 0)), am_wd I A J) := by
  simp only [eX10_isHouse, sX10_isHouse_0, sX10_isHouse_1, sX10_isHouse_4, sX10_isHouse_5, sX10_isHouse_6, sX10_isHouse_9, sX10_isHouse_12, sX10_isHouse_13, sX10_isHouse_16, sX10_isHouse_17, wo_0, wf_0_0, wv_0_0, wf_0_1, wv_0_1, wf_0_2, wv_0_2, wf_0_3, wv_0_3, wf_0_4, wv_0_4, wf_0_5, wv_0_5, wf_0_6, wv_0_6, wf_0_7, wv_0_7, wf_0_8, wv_0_8, wf_0_9, wv_0_9, wp_0_9, wf_0_10, wv_0_10, wp_0_10, wf_0_11, wv_0_11, wp_0_11, am_rt_some, am_rt_void, am_rt_none, am_rt_ite, ↓reduceIte, if_true, if_false, and_self, true_and, and_true, true_or, or_true, Bool.false_eq_true, reduceCtorEq]
  by_cases h1 : h < 0 <;> by_cases h2 : h < I 0 9 <;> simp only [h1, h2, not_true_eq_false, not_false_eq_true, and_true, true_and, and_false, false_and, if_true, if_false, and_self]
theorem c_larder {h t : Int32} : am_CL X (d + 1) mX10_larder [.int h, .int t] w = some (some (.int (h * 8 + t)), w) := by
  simp only [eX10_larder, sX10_larder_0, sX10_larder_1, sX10_larder_3, sX10_larder_4, sX10_larder_5, sX10_larder_6, am_rt_some, am_rt_void, am_rt_none, am_rt_ite, ↓reduceIte, if_true, if_false, and_self, true_and, and_true, true_or, or_true, Bool.false_eq_true, reduceCtorEq]
theorem c_strengthAt {h t : Int32} : am_CL X (d + 1) mX10_strengthAt [.int h, .int t] w = some (some (.int (h * 5 + t)), w) := by
  simp only [eX10_strengthAt, sX10_strengthAt_0, sX10_strengthAt_1, sX10_strengthAt_2, sX10_strengthAt_3, sX10_strengthAt_4, sX10_strengthAt_5, am_rt_some, am_rt_void, am_rt_none, am_rt_ite, ↓reduceIte, if_true, if_false, and_self, true_and, and_true, true_or, or_true, Bool.false_eq_true, reduceCtorEq]
theorem c_nosesIsOne {h : Int32} : am_CL X (d + 1) mX5_isOne [.ref 36, .int h] (am_wd I A J) = some (some (.int (if ¬ h < 0 ∧ h < I 36 2 then 1 else 0)), am_wd I A J) := by
  simp only [eX5_isOne, sX5_isOne_0, sX5_isOne_1, sX5_isOne_4, sX5_isOne_5, sX5_isOne_6, sX5_isOne_9, sX5_isOne_12, sX5_isOne_13, sX5_isOne_16, sX5_isOne_17, wo_36, wf_36_0, wv_36_0, wf_36_1, wv_36_1, wf_36_2, wv_36_2, wp_36_2, wf_36_3, wv_36_3, wf_36_4, wv_36_4, wf_36_5, wv_36_5, wp_36_5, am_rt_some, am_rt_void, am_rt_none, am_rt_ite, ↓reduceIte, if_true, if_false, and_self, true_and, and_true, true_or, or_true, Bool.false_eq_true, reduceCtorEq]
  by_cases h1 : h < 0 <;> by_cases h2 : h < I 36 2 <;> simp only [h1, h2, not_true_eq_false, not_false_eq_true, and_true, true_and, and_false, false_and, if_true, if_false, and_self]
theorem c_areShelves {h : Int32} : am_CL X (d + 2) mX10_areShelves [.int h] w = some (some (.int (if ¬ h < 0 ∧ (¬ h / 10 < 0 ∧ h / 10 < 6) ∧ (¬ h - h / 10 * 10 < 0 ∧ h - h / 10 * 10 < 6) then 1 else 0)), w) := by
  simp only [eX10_areShelves, sX10_areShelves_0, sX10_areShelves_1, sX10_areShelves_4, sX10_areShelves_5, sX10_areShelves_7, sX10_areShelves_8, sX10_areShelves_11, sX10_areShelves_14, sX10_areShelves_15, sX10_areShelves_17, sX10_areShelves_18, sX10_areShelves_21, sX10_areShelves_24, sX10_areShelves_25, sX10_areShelves_28, sX10_areShelves_29, c_isShelf, am_bi_eq0, am_bi_01, show ((10 : Int32) = 0) = False by decide, am_rt_some, am_rt_void, am_rt_none, am_rt_ite, ↓reduceIte, if_true, if_false, and_self, true_and, and_true, true_or, or_true, Bool.false_eq_true, reduceCtorEq]
  by_cases h1 : h < 0 <;> by_cases h2 : (¬ h / 10 < 0 ∧ h / 10 < 6) <;> by_cases h3 : (¬ h - h / 10 * 10 < 0 ∧ h - h / 10 * 10 < 6) <;> simp only [h1, h2, h3, not_true_eq_false, not_false_eq_true, and_true, true_and, and_false, false_and, if_true, if_false, and_self]
theorem c_isSearch {h : Int32} : am_CL X (d + 2) mX10_isSearch [.ref 0, .int h] (am_wd I A J) = some (some (.int (if ¬ h < 0 ∧ (¬ h / 100 < 0 ∧ h / 100 < I 0 9) ∧ ¬ 10 < h - h / 100 * 100 then 1 else 0)), am_wd I A J) := by
  simp only [eX10_isSearch, sX10_isSearch_0, sX10_isSearch_1, sX10_isSearch_4, sX10_isSearch_5, sX10_isSearch_6, sX10_isSearch_8, sX10_isSearch_9, sX10_isSearch_12, sX10_isSearch_15, sX10_isSearch_16, sX10_isSearch_18, sX10_isSearch_19, sX10_isSearch_21, sX10_isSearch_24, sX10_isSearch_25, sX10_isSearch_28, sX10_isSearch_29, wo_0, wf_0_0, wv_0_0, wf_0_1, wv_0_1, wf_0_2, wv_0_2, wf_0_3, wv_0_3, wf_0_4, wv_0_4, wf_0_5, wv_0_5, wf_0_6, wv_0_6, wf_0_7, wv_0_7, wf_0_8, wv_0_8, wf_0_9, wv_0_9, wp_0_9, wf_0_10, wv_0_10, wp_0_10, wf_0_11, wv_0_11, wp_0_11, c_isHouse, am_bi_eq0, am_bi_01, show ((100 : Int32) = 0) = False by decide, am_rt_some, am_rt_void, am_rt_none, am_rt_ite, ↓reduceIte, if_true, if_false, and_self, true_and, and_true, true_or, or_true, Bool.false_eq_true, reduceCtorEq]
  by_cases h1 : h < 0 <;> by_cases h2 : (¬ h / 100 < 0 ∧ h / 100 < I 0 9) <;> by_cases h3 : 10 < h - h / 100 * 100 <;> simp only [h1, h2, h3, not_true_eq_false, not_false_eq_true, and_true, true_and, and_false, false_and, if_true, if_false, and_self]
end C41

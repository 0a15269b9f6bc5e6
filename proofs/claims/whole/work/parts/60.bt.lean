/-! BOTH, METHOD BY METHOD: what is shown; statics, little tests -/
def RelE (I A : TI) (J : TJ) : Prop := ∃ G, Rel G I A J
def Bt (mx mm : am_M) (as : List Value) : Prop := ∀ (X : Nat × (Nat → Int32)) (d : Nat) (I A : TI) (J : TJ), RelE I A J → ∃ r : Int32, am_T (am_CL X (d + 60) mx (.ref 0 :: as) (am_wd I A J)) (oI r fun I1 A1 J1 => am_T (am_CL X (d + 60) mm (.ref 81 :: as) (am_wd I1 A1 J1)) (oI r RelE))
def BtL (mx mm : am_M) (as : List Value) : Prop := ∀ (X : Nat × (Nat → Int32)) (d : Nat) (I A : TI) (J : TJ), RelE I A J → ∃ r : Int64, am_T (am_CL X (d + 60) mx (.ref 0 :: as) (am_wd I A J)) (oL r fun I1 A1 J1 => am_T (am_CL X (d + 60) mm (.ref 81 :: as) (am_wd I1 A1 J1)) (oL r RelE))
section BB
variable {X : Nat × (Nat → Int32)} {d : Nat} {I A : TI} {J : TJ} {w : am_W}
theorem so1 (i : Int32) : ((1 : UInt32) ≤ 5 ∧ am_in i (am_out X 1).fst = true) = (am_in i 5 = true) := propext ⟨fun h => h.2, fun h => ⟨by decide, h⟩⟩
theorem so2 (i : Int32) : ((2 : UInt32) ≤ 5 ∧ am_in i (am_out X 2).fst = true) = (am_in i 5 = true) := propext ⟨fun h => h.2, fun h => ⟨by decide, h⟩⟩
theorem so3 (i : Int32) : ((3 : UInt32) ≤ 5 ∧ am_in i (am_out X 3).fst = true) = (am_in i 5 = true) := propext ⟨fun h => h.2, fun h => ⟨by decide, h⟩⟩
theorem so4 (i : Int32) : ((4 : UInt32) ≤ 5 ∧ am_in i (am_out X 4).fst = true) = (am_in i 8 = true) := propext ⟨fun h => h.2, fun h => ⟨by decide, h⟩⟩
theorem so5 (i : Int32) : ((5 : UInt32) ≤ 5 ∧ am_in i (am_out X 5).fst = true) = (am_in i 32 = true) := propext ⟨fun h => h.2, fun h => ⟨by decide, h⟩⟩
theorem sv1 (i : Nat) : (am_out X 1).snd i = (am_sA 1).getD i 0 := rfl
theorem sv2 (i : Nat) : (am_out X 2).snd i = (am_sA 2).getD i 0 := rfl
theorem sv3 (i : Nat) : (am_out X 3).snd i = (am_sA 3).getD i 0 := rfl
theorem sv4 (i : Nat) : (am_out X 4).snd i = (am_sA 4).getD i 0 := rfl
theorem sv5 (i : Nat) : (am_out X 5).snd i = (am_sA 5).getD i 0 := rfl
theorem sl4 : Int32.ofNat (am_out X 4).fst = 8 := rfl
theorem sl3 : Int32.ofNat (am_out X 3).fst = 5 := rfl
theorem u45 : ((4 : UInt32) ≤ 5) = True := by decide
theorem u35 : ((3 : UInt32) ≤ 5) = True := by decide
theorem i_pred {v : Int32} {m : Nat} (hm : m < 2147483648) : (¬ v < 0 ∧ ¬ nI m - 1 < v) = (¬ v < 0 ∧ v < nI m) := by
  refine propext ⟨fun h => ⟨h.1, ?_⟩, fun h => ⟨h.1, ?_⟩⟩
  · obtain ⟨j, hj, rfl⟩ := nI_of h.1
    have h2 := h.2
    rw [am_nlt (by omega) hm]
    cases m with
    | zero => exact absurd (show nI 0 - 1 < nI j from Int32.lt_of_lt_of_le (show nI 0 - 1 < nI 0 by decide) (nI_le (Nat.zero_le j) hj)) h2
    | succ m =>
      rw [nI_pred, am_nlt (by omega) (by omega)] at h2
      omega
  · obtain ⟨j, hj, rfl⟩ := nI_of h.1
    have h2 := h.2
    rw [am_nlt (by omega) hm] at h2
    obtain ⟨m, rfl⟩ : ∃ k, m = k + 1 := ⟨m - 1, by omega⟩
    rw [nI_pred, am_nlt (by omega) (by omega)]
    omega
theorem c_nosesCome {k : Int32} {z : Nat} (hz : z ≤ 8) (h : I 36 2 = nI z) : am_CL X (d + 1) mX5_come [.ref 36, .int k] (am_wd I A J) = if z < 8 then some (some (.int (nI z)), am_wd (am_u2 I 36 2 (nI (z + 1))) (am_u (am_u A 37 (upd (A 37) z k)) 38 (upd (A 38) z 31)) J) else some (some (.int (-3)), am_wd I A J) := by
  have e8 : (nI z < 8) = (z < 8) := am_nlit 8 rfl (by omega) (by omega)
  simp only [eX5_come, sX5_come_0, sX5_come_1, sX5_come_4, sX5_come_6, sX5_come_9, sX5_come_11, sX5_come_12, sX5_come_13, sX5_come_16, sX5_come_17, sX5_come_20, sX5_come_21, sX5_come_22, sX5_come_23, sX5_come_26, sX5_come_27, sX5_come_30, sX5_come_32, sX5_come_33, sX5_come_34, sX5_come_34_r, sX5_come_35, sX5_come_38, sX5_come_39, sX5_come_40, sX5_come_41, sX5_come_44, wo_36, wf_36_0, wv_36_0, wf_36_1, wv_36_1, wf_36_2, wv_36_2, wp_36_2, wf_36_3, wv_36_3, wf_36_4, wv_36_4, wf_36_5, wv_36_5, wp_36_5, wi_37, wg_37, ws_37, ww_37, wl_37, wn_37, wi_38, wg_38, ws_38, ww_38, wl_38, wn_38, am_rt_some, am_rt_void, am_rt_none, am_rt_ite, ↓reduceIte, if_true, if_false, and_self, true_and, and_true, true_or, or_true, Bool.false_eq_true, reduceCtorEq, h, e8]
  by_cases hz8 : z < 8
  · simp only [hz8, am_nin hz8 (show 8 < 2147483648 by omega), if_true, am_ncl (show z < 2147483648 by omega), am_n1, am_u_ne (show (38 : Nat) ≠ 37 by decide)]
  · simp only [hz8, if_false]
theorem c_isKind {k : Int32} : am_CL X (d + 1) mX3_isKind [.int k] w = some (some (.int (if ¬ k < 0 ∧ k < 8 then 1 else 0)), w) := by
  simp only [eX3_isKind, sX3_isKind_0, sX3_isKind_1, sX3_isKind_4, sX3_isKind_5, sX3_isKind_8, sX3_isKind_8_f, sX3_isKind_9, sX3_isKind_12, sX3_isKind_13, sX3_isKind_16, sX3_isKind_17, am_rt_some, am_rt_void, am_rt_none, am_rt_ite, ↓reduceIte, if_true, if_false, and_self, true_and, and_true, true_or, or_true, Bool.false_eq_true, reduceCtorEq, u45, sl4]
  by_cases h1 : k < 0 <;> by_cases h2 : k < 8 <;> simp only [h1, h2, not_true_eq_false, not_false_eq_true, and_true, true_and, and_false, false_and, if_true, if_false, and_self]
theorem c_ladIsOne {k : Int32} : am_CL X (d + 1) mX3_isOne [.ref 65, .int k] (am_wd I A J) = some (some (.int (if ¬ k < 0 ∧ k < I 65 1 then 1 else 0)), am_wd I A J) := by
  simp only [eX3_isOne, sX3_isOne_0, sX3_isOne_1, sX3_isOne_4, sX3_isOne_5, sX3_isOne_6, sX3_isOne_9, sX3_isOne_12, sX3_isOne_13, sX3_isOne_16, sX3_isOne_17, wo_65, wf_65_0, wv_65_0, wf_65_1, wv_65_1, wp_65_1, wf_65_2, wv_65_2, wf_65_3, wv_65_3, wp_65_3, wf_65_4, wv_65_4, wp_65_4, wf_65_5, wv_65_5, wp_65_5, am_rt_some, am_rt_void, am_rt_none, am_rt_ite, ↓reduceIte, if_true, if_false, and_self, true_and, and_true, true_or, or_true, Bool.false_eq_true, reduceCtorEq]
  by_cases h1 : k < 0 <;> by_cases h2 : k < I 65 1 <;> simp only [h1, h2, not_true_eq_false, not_false_eq_true, and_true, true_and, and_false, false_and, if_true, if_false, and_self]
theorem r_isHouse {h : Int32} {m : Nat} (hm : m < 1000) (e : I 81 1 = nI m) : am_CL X (d + 2) mX11_isHouse [.ref 81, .int h] (am_wd I A J) = some (some (.int (if ¬ h < 0 ∧ h < nI m then 1 else 0)), am_wd I A J) := by
  simp only [eX11_isHouse, sX11_isHouse_0, sX11_isHouse_1, sX11_isHouse_2, sX11_isHouse_3, sX11_isHouse_6, sX11_isHouse_7, sX11_isHouse_8, sX11_isHouse_11, wo_81, wf_81_0, wv_81_0, wf_81_1, wv_81_1, wp_81_1, wf_81_2, wv_81_2, wp_81_2, wf_81_3, wv_81_3, wf_81_4, wv_81_4, wf_81_5, wv_81_5, wf_81_6, wv_81_6, wp_81_6, wf_81_7, wv_81_7, wp_81_7, wf_81_8, wv_81_8, wf_81_9, wv_81_9, wp_81_9, wf_81_10, wv_81_10, wf_81_11, wv_81_11, wp_81_11, wf_81_12, wv_81_12, wp_81_12, wf_81_13, wv_81_13, wf_81_14, wv_81_14, wp_81_14, wf_81_15, wv_81_15, wp_81_15, wf_81_16, wv_81_16, wp_81_16, wf_81_17, wv_81_17, wp_81_17, wf_81_18, wv_81_18, wf_81_19, wv_81_19, wf_81_20, wv_81_20, wf_81_21, wv_81_21, wf_81_22, wv_81_22, wf_81_23, wv_81_23, wf_81_24, wv_81_24, wf_81_25, wv_81_25, wf_81_26, wv_81_26, wf_81_27, wv_81_27, wf_81_28, wv_81_28, wf_81_29, wv_81_29, wf_81_30, wv_81_30, wf_81_31, wv_81_31, wf_81_32, wv_81_32, wf_81_33, wv_81_33, wp_81_33, wf_81_34, wv_81_34, wf_81_35, wv_81_35, wp_81_35, wf_81_36, wv_81_36, wf_81_37, wv_81_37, wp_81_37, wf_81_38, wv_81_38, wf_81_39, wv_81_39, wf_81_40, wv_81_40, wf_81_41, wv_81_41, wf_81_42, wv_81_42, wp_81_42, wf_81_43, wv_81_43, wp_81_43, wf_81_44, wv_81_44, wp_81_44, wf_81_45, wv_81_45, wf_81_46, wv_81_46, wf_81_47, wv_81_47, wf_81_48, wv_81_48, wp_81_48, wf_81_49, wv_81_49, wf_81_50, wv_81_50, wp_81_50, am_rt_some, am_rt_void, am_rt_none, am_rt_ite, ↓reduceIte, if_true, if_false, and_self, true_and, and_true, true_or, or_true, Bool.false_eq_true, reduceCtorEq, r_isIn, am_bi_01, e, i_pred (show m < 2147483648 by omega)]
theorem r_isNose {h : Int32} {m : Nat} (hm : m < 1000) (e : I 81 2 = nI m) : am_CL X (d + 2) mX11_isNose [.ref 81, .int h] (am_wd I A J) = some (some (.int (if ¬ h < 0 ∧ h < nI m then 1 else 0)), am_wd I A J) := by
  simp only [eX11_isNose, sX11_isNose_0, sX11_isNose_1, sX11_isNose_2, sX11_isNose_3, sX11_isNose_6, sX11_isNose_7, sX11_isNose_8, sX11_isNose_11, wo_81, wf_81_0, wv_81_0, wf_81_1, wv_81_1, wp_81_1, wf_81_2, wv_81_2, wp_81_2, wf_81_3, wv_81_3, wf_81_4, wv_81_4, wf_81_5, wv_81_5, wf_81_6, wv_81_6, wp_81_6, wf_81_7, wv_81_7, wp_81_7, wf_81_8, wv_81_8, wf_81_9, wv_81_9, wp_81_9, wf_81_10, wv_81_10, wf_81_11, wv_81_11, wp_81_11, wf_81_12, wv_81_12, wp_81_12, wf_81_13, wv_81_13, wf_81_14, wv_81_14, wp_81_14, wf_81_15, wv_81_15, wp_81_15, wf_81_16, wv_81_16, wp_81_16, wf_81_17, wv_81_17, wp_81_17, wf_81_18, wv_81_18, wf_81_19, wv_81_19, wf_81_20, wv_81_20, wf_81_21, wv_81_21, wf_81_22, wv_81_22, wf_81_23, wv_81_23, wf_81_24, wv_81_24, wf_81_25, wv_81_25, wf_81_26, wv_81_26, wf_81_27, wv_81_27, wf_81_28, wv_81_28, wf_81_29, wv_81_29, wf_81_30, wv_81_30, wf_81_31, wv_81_31, wf_81_32, wv_81_32, wf_81_33, wv_81_33, wp_81_33, wf_81_34, wv_81_34, wf_81_35, wv_81_35, wp_81_35, wf_81_36, wv_81_36, wf_81_37, wv_81_37, wp_81_37, wf_81_38, wv_81_38, wf_81_39, wv_81_39, wf_81_40, wv_81_40, wf_81_41, wv_81_41, wf_81_42, wv_81_42, wp_81_42, wf_81_43, wv_81_43, wp_81_43, wf_81_44, wv_81_44, wp_81_44, wf_81_45, wv_81_45, wf_81_46, wv_81_46, wf_81_47, wv_81_47, wf_81_48, wv_81_48, wp_81_48, wf_81_49, wv_81_49, wf_81_50, wv_81_50, wp_81_50, am_rt_some, am_rt_void, am_rt_none, am_rt_ite, ↓reduceIte, if_true, if_false, and_self, true_and, and_true, true_or, or_true, Bool.false_eq_true, reduceCtorEq, r_isIn, am_bi_01, e, i_pred (show m < 2147483648 by omega)]
theorem i_5lt {x : Int32} : (¬ x < 0 ∧ ¬ 5 < x) = (¬ x < 0 ∧ x < 6) := i_pred (m := 6) (by decide)
theorem i_7lt {x : Int32} : (¬ x < 0 ∧ ¬ 7 < x) = (¬ x < 0 ∧ x < 8) := i_pred (m := 8) (by decide)
theorem r_isShelf {h : Int32} : am_CL X (d + 2) mX11_isShelf [.int h] w = some (some (.int (if ¬ h < 0 ∧ h < 6 then 1 else 0)), w) := by
  simp only [eX11_isShelf, sX11_isShelf_0, sX11_isShelf_1, sX11_isShelf_2, sX11_isShelf_3, sX11_isShelf_6, am_rt_some, am_rt_void, am_rt_none, am_rt_ite, ↓reduceIte, if_true, if_false, and_self, true_and, and_true, true_or, or_true, Bool.false_eq_true, reduceCtorEq, r_isIn, am_bi_01, i_5lt]
/-- sums -/
def smf (f : Nat → Int32) : Nat → Int32
  | 0 => 0
  | n + 1 => smf f n + f n
theorem smf_cg {f g : Nat → Int32} : ∀ {n : Nat}, (∀ j, j < n → f j = g j) → smf f n = smf g n
  | 0, _ => rfl
  | n + 1, h => by
    show smf f n + f n = smf g n + g n
    rw [smf_cg (fun j hj => h j (by omega)), h n (by omega)]
theorem c_howMuch15 : am_CL X (d + 1) mX6_howMuch [.ref 15] (am_wd I A J) = some (some (.int (smf (A 16) 8)), am_wd I A J) := by
  have key : ∀ (m k : Nat), k + m = 8 → am_EV X d mX6_howMuch 4 [.ref 15, .int (smf (A 16) k), .int (nI k)] [] (am_wd I A J) = some (some (.int (smf (A 16) 8)), am_wd I A J) := by
    intro m
    induction m with
    | zero =>
      intro k hk
      have h8 : k = 8 := by omega
      subst h8
      simp only [sX6_howMuch_4, sX6_howMuch_5, sX6_howMuch_7, sX6_howMuch_25, sX6_howMuch_26, am_rt_some, am_rt_void, am_rt_none, am_rt_ite, ↓reduceIte, if_true, if_false, and_self, true_and, and_true, true_or, or_true, Bool.false_eq_true, reduceCtorEq, show (nI 8 < 8) = False by decide]
    | succ m ih =>
      intro k hk
      have hlt : (nI k < 8) = True := by rw [am_nlit (x := 8) 8 rfl (show k < 2147483648 by omega) (by decide)]; exact eq_true (by omega)
      rw [sX6_howMuch_4]
      simp only [sX6_howMuch_5, sX6_howMuch_7, sX6_howMuch_10, sX6_howMuch_11, sX6_howMuch_12, sX6_howMuch_15, sX6_howMuch_16, sX6_howMuch_17, sX6_howMuch_18, sX6_howMuch_19, sX6_howMuch_22, wo_15, wf_15_0, wv_15_0, wf_15_1, wv_15_1, wf_15_2, wv_15_2, wp_15_2, wf_15_3, wv_15_3, wf_15_4, wv_15_4, wp_15_4, wi_16, wg_16, ws_16, ww_16, wl_16, wn_16, am_rt_some, am_rt_void, am_rt_none, am_rt_ite, ↓reduceIte, if_true, if_false, and_self, true_and, and_true, true_or, or_true, Bool.false_eq_true, reduceCtorEq, hlt, am_nin (show k < 8 by omega) (show (8 : Nat) < 2147483648 by omega), am_ncl (show k < 2147483648 by omega), am_n1]
      exact ih (k + 1) (by omega)
  simp only [eX6_howMuch, sX6_howMuch_0, sX6_howMuch_1, sX6_howMuch_2, sX6_howMuch_3]
  exact key 8 0 rfl
theorem c_howMuch49 : am_CL X (d + 1) mX6_howMuch [.ref 49] (am_wd I A J) = some (some (.int (smf (A 50) 8)), am_wd I A J) := by
  have key : ∀ (m k : Nat), k + m = 8 → am_EV X d mX6_howMuch 4 [.ref 49, .int (smf (A 50) k), .int (nI k)] [] (am_wd I A J) = some (some (.int (smf (A 50) 8)), am_wd I A J) := by
    intro m
    induction m with
    | zero =>
      intro k hk
      have h8 : k = 8 := by omega
      subst h8
      simp only [sX6_howMuch_4, sX6_howMuch_5, sX6_howMuch_7, sX6_howMuch_25, sX6_howMuch_26, am_rt_some, am_rt_void, am_rt_none, am_rt_ite, ↓reduceIte, if_true, if_false, and_self, true_and, and_true, true_or, or_true, Bool.false_eq_true, reduceCtorEq, show (nI 8 < 8) = False by decide]
    | succ m ih =>
      intro k hk
      have hlt : (nI k < 8) = True := by rw [am_nlit (x := 8) 8 rfl (show k < 2147483648 by omega) (by decide)]; exact eq_true (by omega)
      rw [sX6_howMuch_4]
      simp only [sX6_howMuch_5, sX6_howMuch_7, sX6_howMuch_10, sX6_howMuch_11, sX6_howMuch_12, sX6_howMuch_15, sX6_howMuch_16, sX6_howMuch_17, sX6_howMuch_18, sX6_howMuch_19, sX6_howMuch_22, wo_49, wf_49_0, wv_49_0, wf_49_1, wv_49_1, wf_49_2, wv_49_2, wp_49_2, wf_49_3, wv_49_3, wf_49_4, wv_49_4, wp_49_4, wi_50, wg_50, ws_50, ww_50, wl_50, wn_50, am_rt_some, am_rt_void, am_rt_none, am_rt_ite, ↓reduceIte, if_true, if_false, and_self, true_and, and_true, true_or, or_true, Bool.false_eq_true, reduceCtorEq, hlt, am_nin (show k < 8 by omega) (show (8 : Nat) < 2147483648 by omega), am_ncl (show k < 2147483648 by omega), am_n1]
      exact ih (k + 1) (by omega)
  simp only [eX6_howMuch, sX6_howMuch_0, sX6_howMuch_1, sX6_howMuch_2, sX6_howMuch_3]
  exact key 8 0 rfl
theorem r_inAll93 : am_CL X (d + 1) mX11_inAll [.ref 81, .ref 93] (am_wd I A J) = some (some (.int (smf (A 93) 8)), am_wd I A J) := by
  have key : ∀ (m k : Nat), k + m = 8 → am_EV X d mX11_inAll 4 [.ref 81, .ref 93, .int (smf (A 93) k), .int (nI k)] [] (am_wd I A J) = some (some (.int (smf (A 93) 8)), am_wd I A J) := by
    intro m
    induction m with
    | zero =>
      intro k hk
      have h8 : k = 8 := by omega
      subst h8
      simp only [sX11_inAll_4, sX11_inAll_5, sX11_inAll_7, sX11_inAll_22, sX11_inAll_23, am_rt_some, am_rt_void, am_rt_none, am_rt_ite, ↓reduceIte, if_true, if_false, and_self, true_and, and_true, true_or, or_true, Bool.false_eq_true, reduceCtorEq, show (nI 8 < 8) = False by decide]
    | succ m ih =>
      intro k hk
      have hlt : (nI k < 8) = True := by rw [am_nlit (x := 8) 8 rfl (show k < 2147483648 by omega) (by decide)]; exact eq_true (by omega)
      rw [sX11_inAll_4]
      simp only [sX11_inAll_5, sX11_inAll_7, sX11_inAll_10, sX11_inAll_11, sX11_inAll_12, sX11_inAll_13, sX11_inAll_14, sX11_inAll_15, sX11_inAll_16, sX11_inAll_19, wi_93, wg_93, ws_93, ww_93, wl_93, wn_93, am_rt_some, am_rt_void, am_rt_none, am_rt_ite, ↓reduceIte, if_true, if_false, and_self, true_and, and_true, true_or, or_true, Bool.false_eq_true, reduceCtorEq, hlt, am_nin (show k < 14 by omega) (show (14 : Nat) < 2147483648 by omega), am_ncl (show k < 2147483648 by omega), am_n1]
      exact ih (k + 1) (by omega)
  simp only [eX11_inAll, sX11_inAll_0, sX11_inAll_1, sX11_inAll_2, sX11_inAll_3]
  exact key 8 0 rfl
theorem r_inAll105 : am_CL X (d + 1) mX11_inAll [.ref 81, .ref 105] (am_wd I A J) = some (some (.int (smf (A 105) 8)), am_wd I A J) := by
  have key : ∀ (m k : Nat), k + m = 8 → am_EV X d mX11_inAll 4 [.ref 81, .ref 105, .int (smf (A 105) k), .int (nI k)] [] (am_wd I A J) = some (some (.int (smf (A 105) 8)), am_wd I A J) := by
    intro m
    induction m with
    | zero =>
      intro k hk
      have h8 : k = 8 := by omega
      subst h8
      simp only [sX11_inAll_4, sX11_inAll_5, sX11_inAll_7, sX11_inAll_22, sX11_inAll_23, am_rt_some, am_rt_void, am_rt_none, am_rt_ite, ↓reduceIte, if_true, if_false, and_self, true_and, and_true, true_or, or_true, Bool.false_eq_true, reduceCtorEq, show (nI 8 < 8) = False by decide]
    | succ m ih =>
      intro k hk
      have hlt : (nI k < 8) = True := by rw [am_nlit (x := 8) 8 rfl (show k < 2147483648 by omega) (by decide)]; exact eq_true (by omega)
      rw [sX11_inAll_4]
      simp only [sX11_inAll_5, sX11_inAll_7, sX11_inAll_10, sX11_inAll_11, sX11_inAll_12, sX11_inAll_13, sX11_inAll_14, sX11_inAll_15, sX11_inAll_16, sX11_inAll_19, wi_105, wg_105, ws_105, ww_105, wl_105, wn_105, am_rt_some, am_rt_void, am_rt_none, am_rt_ite, ↓reduceIte, if_true, if_false, and_self, true_and, and_true, true_or, or_true, Bool.false_eq_true, reduceCtorEq, hlt, am_nin (show k < 14 by omega) (show (14 : Nat) < 2147483648 by omega), am_ncl (show k < 2147483648 by omega), am_n1]
      exact ih (k + 1) (by omega)
  simp only [eX11_inAll, sX11_inAll_0, sX11_inAll_1, sX11_inAll_2, sX11_inAll_3]
  exact key 8 0 rfl
/-! pieces, when something of theirs changes -/
theorem str_set {st nu : Nat → Int32} {p : Nat} {x : Int32} (h : rStr st nu) (hp : 40 ≤ p) : rStr st (upd nu p x) := fun j hj => by
  show st j = if j = p then x else nu j
  rw [if_neg (by omega)]
  exact h j hj
theorem has_set {ha nu : Nat → Int32} {p : Nat} {x : Int32} (h : rHas ha nu) (hp : p < 40 ∨ 88 ≤ p) : rHas ha (upd nu p x) := fun j hj => by
  show ha j = (if 40 + j = p then x else nu (40 + j)) ∧ _
  rw [if_neg (by omega)]
  exact h j hj
theorem fir_set {f : Int32} {nu : Nat → Int32} {p : Nat} {x : Int32} (h : rFir f nu) (hp : p ≠ 104) : rFir f (upd nu p x) := by
  show f = if 104 = p then x else nu 104
  rw [if_neg (by omega)]
  exact h
theorem nos_set {sz rz : Int32} {kn wh nu : Nat → Int32} {p : Nat} {x : Int32} (h : rNos sz kn wh rz nu) (hp : p < 88 ∨ 104 ≤ p) : rNos sz kn wh rz (upd nu p x) := ⟨h.1, fun j hj => by
  show kn j = (if 88 + j = p then x else nu (88 + j)) ∧ wh j = if 96 + j = p then x else nu (96 + j)
  rw [if_neg (by omega), if_neg (by omega)]
  exact h.2 j hj⟩
theorem lcN_mono {h z h' z' : Nat} {n q : Int32} {p : Nat} (e : lcN h z n q = some p) (hh : h ≤ h') (hz : z ≤ z') : lcN h' z' n q = some p := by
  unfold lcN at e ⊢
  by_cases n0 : n < 0
  · rw [if_pos n0] at e; cases e
  rw [if_neg n0] at e ⊢
  by_cases q0 : q = 0
  · rw [if_pos q0] at e ⊢; exact e
  rw [if_neg q0] at e ⊢
  by_cases q1 : q = 1
  · rw [if_pos q1] at e ⊢
    by_cases c : n.toNatClampNeg / 10 < h ∧ n.toNatClampNeg % 10 < 8
    · rw [if_pos c] at e
      rw [if_pos ⟨by omega, c.2⟩]
      exact e
    · rw [if_neg c] at e; cases e
  rw [if_neg q1] at e ⊢
  by_cases q2 : q = 2
  · rw [if_pos q2] at e ⊢
    by_cases c : n.toNatClampNeg < z
    · rw [if_pos c] at e
      rw [if_pos (show n.toNatClampNeg < z' by omega)]
      exact e
    · rw [if_neg c] at e; cases e
  rw [if_neg q2] at e ⊢
  by_cases q3 : q = 3
  · rw [if_pos q3] at e ⊢
    by_cases c : n.toNatClampNeg < z
    · rw [if_pos c] at e
      rw [if_pos (show n.toNatClampNeg < z' by omega)]
      exact e
    · rw [if_neg c] at e; cases e
  rw [if_neg q3] at e ⊢
  exact e
theorem chg_mono {dn sz rd rk h z h' z' : Int32} {n q b e rc ro ry : Nat → Int32} (k : rChg dn sz rd rk n q b e rc ro ry h z) (hh : h.toNatClampNeg ≤ h'.toNatClampNeg) (hz : z.toNatClampNeg ≤ z'.toNatClampNeg) : rChg dn sz rd rk n q b e rc ro ry h' z' := by
  obtain ⟨a, s, k1, k2, k3, k4, k5, k6, k7⟩ := k
  refine ⟨a, s, k1, k2, k3, k4, k5, k6, fun j hj => ?_⟩
  obtain ⟨g1, g2, p, g3, g4⟩ := k7 j hj
  exact ⟨g1, g2, p, lcN_mono g3 hh hz, g4⟩
end BB

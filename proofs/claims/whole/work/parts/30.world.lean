/-! THE WORLD OF BOTH, once they are made: 114 cells; I: the numbers of objects, A: rows of ints, J: rows of longs -/
def am_u {α : Type} (A : Nat → α) (c : Nat) (g : α) : Nat → α := fun i => if i = c then g else A i
def am_u2 {α : Type} (I : Nat → Nat → α) (c k : Nat) (x : α) : Nat → Nat → α := fun i j => if i = c then (if j = k then x else I i j) else I i j
def am_wL (I A : Nat → Nat → Int32) (J : Nat → Nat → Int64) : List am_C := [.inr (10, [.ref 1, .ref 6, .ref 36, .ref 41, .ref 46, .ref 53, .ref 60, .ref 65, .ref 68, .int (I 0 9), .int (I 0 10), .int (I 0 11)]),
  .inr (9, [.ref 2, .int (I 1 1), .int (I 1 2), .ref 3, .int (I 1 4), .ref 4, .ref 5, .int (I 1 7)]),
  .inl (0, 120, .inl (A 2)),
  .inl (0, 120, .inl (A 3)),
  .inl (0, 60, .inl (A 4)),
  .inl (0, 60, .inl (A 5)),
  .inr (2, [.ref 7, .ref 13, .int (I 6 2), .ref 14, .ref 15, .ref 19, .int (I 6 6)]),
  .inr (4, [.ref 8, .ref 9, .ref 10, .int (I 7 3), .ref 11, .ref 12]),
  .inl (0, 120, .inl (A 8)),
  .inl (0, 60, .inl (A 9)),
  .inl (0, 60, .inl (A 10)),
  .inl (0, 120, .inl (A 11)),
  .inl (0, 6, .inl (A 12)),
  .inl (0, 40, .inl (A 13)),
  .inl (0, 5, .inl (A 14)),
  .inr (6, [.ref 16, .ref 17, .int (I 15 2), .ref 18, .int (I 15 4)]),
  .inl (0, 8, .inl (A 16)),
  .inl (0, 5, .inl (A 17)),
  .inl (0, 5, .inl (A 18)),
  .inl (4, 4, .inr (.inr (.inr (.inr (fun j => if j < 4 then some (20 + 4 * j) else none))))),
  .inr (6, [.ref 21, .ref 22, .int (I 20 2), .ref 23, .int (I 20 4)]),
  .inl (0, 8, .inl (A 21)),
  .inl (0, 5, .inl (A 22)),
  .inl (0, 5, .inl (A 23)),
  .inr (6, [.ref 25, .ref 26, .int (I 24 2), .ref 27, .int (I 24 4)]),
  .inl (0, 8, .inl (A 25)),
  .inl (0, 5, .inl (A 26)),
  .inl (0, 5, .inl (A 27)),
  .inr (6, [.ref 29, .ref 30, .int (I 28 2), .ref 31, .int (I 28 4)]),
  .inl (0, 8, .inl (A 29)),
  .inl (0, 5, .inl (A 30)),
  .inl (0, 5, .inl (A 31)),
  .inr (6, [.ref 33, .ref 34, .int (I 32 2), .ref 35, .int (I 32 4)]),
  .inl (0, 8, .inl (A 33)),
  .inl (0, 5, .inl (A 34)),
  .inl (0, 5, .inl (A 35)),
  .inr (5, [.ref 37, .ref 38, .int (I 36 2), .ref 39, .ref 40, .int (I 36 5)]),
  .inl (0, 8, .inl (A 37)),
  .inl (0, 8, .inl (A 38)),
  .inl (0, 30, .inl (A 39)),
  .inl (0, 15, .inl (A 40)),
  .inr (1, [.ref 42, .int (I 41 1), .ref 43, .ref 44, .ref 45, .int (I 41 5)]),
  .inl (0, 8, .inl (A 42)),
  .inl (0, 3, .inl (A 43)),
  .inl (0, 8, .inl (A 44)),
  .inl (0, 8, .inl (A 45)),
  .inr (7, [.ref 47, .ref 48, .ref 49, .int (I 46 3)]),
  .inl (0, 48, .inl (A 47)),
  .inl (0, 5, .inl (A 48)),
  .inr (6, [.ref 50, .ref 51, .int (I 49 2), .ref 52, .int (I 49 4)]),
  .inl (0, 8, .inl (A 50)),
  .inl (0, 5, .inl (A 51)),
  .inl (0, 5, .inl (A 52)),
  .inr (7, [.ref 54, .ref 55, .ref 56, .int (I 53 3)]),
  .inl (0, 48, .inl (A 54)),
  .inl (0, 5, .inl (A 55)),
  .inr (6, [.ref 57, .ref 58, .int (I 56 2), .ref 59, .int (I 56 4)]),
  .inl (0, 8, .inl (A 57)),
  .inl (0, 5, .inl (A 58)),
  .inl (0, 5, .inl (A 59)),
  .inr (0, [.ref 61, .ref 62, .ref 63, .ref 64, .int (I 60 4), .int (I 60 5)]),
  .inl (0, 40, .inl (A 61)),
  .inl (0, 40, .inl (A 62)),
  .inl (0, 40, .inl (A 63)),
  .inl (0, 40, .inl (A 64)),
  .inr (3, [.ref 66, .int (I 65 1), .ref 67, .int (I 65 3), .int (I 65 4), .int (I 65 5)]),
  .inl (0, 50, .inl (A 66)),
  .inl (0, 24, .inl (A 67)),
  .inl (3, 6, .inr (.inr (.inr (.inr (fun j => if j < 6 then some (69 + 2 * j) else none))))),
  .inr (8, [.int (I 69 0), .int (I 69 1), .int (I 69 2), .int (I 69 3), .ref 70]),
  .inl (1, 60, .inr (.inl (J 70))),
  .inr (8, [.int (I 71 0), .int (I 71 1), .int (I 71 2), .int (I 71 3), .ref 72]),
  .inl (1, 60, .inr (.inl (J 72))),
  .inr (8, [.int (I 73 0), .int (I 73 1), .int (I 73 2), .int (I 73 3), .ref 74]),
  .inl (1, 60, .inr (.inl (J 74))),
  .inr (8, [.int (I 75 0), .int (I 75 1), .int (I 75 2), .int (I 75 3), .ref 76]),
  .inl (1, 60, .inr (.inl (J 76))),
  .inr (8, [.int (I 77 0), .int (I 77 1), .int (I 77 2), .int (I 77 3), .ref 78]),
  .inl (1, 60, .inr (.inl (J 78))),
  .inr (8, [.int (I 79 0), .int (I 79 1), .int (I 79 2), .int (I 79 3), .ref 80]),
  .inl (1, 60, .inr (.inl (J 80))),
  .inr (11, [.ref 82, .int (I 81 1), .int (I 81 2), .ref 83, .ref 84, .ref 85, .int (I 81 6), .int (I 81 7), .ref 86, .int (I 81 9), .ref 87, .int (I 81 11), .int (I 81 12), .ref 88, .int (I 81 14), .int (I 81 15), .int (I 81 16), .int (I 81 17), .ref 89, .ref 90, .ref 91, .ref 92, .ref 93, .ref 94, .ref 95, .ref 96, .ref 97, .ref 98, .ref 99, .ref 100, .ref 101, .ref 102, .ref 103, .int (I 81 33), .ref 104, .int (I 81 35), .ref 105, .int (I 81 37), .ref 106, .ref 107, .ref 108, .ref 109, .int (I 81 42), .int (I 81 43), .int (I 81 44), .ref 110, .ref 111, .ref 112, .int (I 81 48), .ref 113, .int (I 81 50)]),
  .inl (0, 105, .inl (A 82)),
  .inl (0, 40, .inl (A 83)),
  .inl (0, 40, .inl (A 84)),
  .inl (0, 40, .inl (A 85)),
  .inl (0, 120, .inl (A 86)),
  .inl (0, 120, .inl (A 87)),
  .inl (0, 120, .inl (A 88)),
  .inl (0, 6, .inl (A 89)),
  .inl (2, 6, .inl (A 90)),
  .inl (0, 5, .inl (A 91)),
  .inl (0, 8, .inl (A 92)),
  .inl (0, 14, .inl (A 93)),
  .inl (0, 5, .inl (A 94)),
  .inl (0, 6, .inl (A 95)),
  .inl (0, 6, .inl (A 96)),
  .inl (1, 360, .inr (.inl (J 97))),
  .inl (1, 60, .inr (.inl (J 98))),
  .inl (0, 4, .inl (A 99)),
  .inl (0, 30, .inl (A 100)),
  .inl (0, 3, .inl (A 101)),
  .inl (0, 8, .inl (A 102)),
  .inl (0, 8, .inl (A 103)),
  .inl (0, 56, .inl (A 104)),
  .inl (0, 14, .inl (A 105)),
  .inl (0, 5, .inl (A 106)),
  .inl (0, 48, .inl (A 107)),
  .inl (0, 14, .inl (A 108)),
  .inl (0, 5, .inl (A 109)),
  .inl (0, 8, .inl (A 110)),
  .inl (0, 32, .inl (A 111)),
  .inl (0, 50, .inl (A 112)),
  .inl (0, 24, .inl (A 113))]
def am_wd (I A : Nat → Nat → Int32) (J : Nat → Nat → Int64) : am_W := (114, 3246, fun i => (am_wL I A J).getD i (.inr (1000, [])))
theorem am_getD_set {α : Type} (l : List α) (c : Nat) (x y : α) (h : c < l.length) : (fun j => if j = c then x else l.getD j y) = fun j => (l.set c x).getD j y := by
  funext j
  by_cases hj : j = c
  · subst hj
    simp [List.getD_eq_getElem?_getD, h]
  · simp [List.getD_eq_getElem?_getD, hj, List.getElem?_set, Ne.symm hj]
theorem am_wd_wr {I A : Nat → Nat → Int32} {J : Nat → Nat → Int64} {I' A' : Nat → Nat → Int32} {J' : Nat → Nat → Int64} {c : Nat} {x : am_C} (hc : c < (am_wL I A J).length) (h : (am_wL I A J).set c x = am_wL I' A' J') : am_wr (am_wd I A J) c x = am_wd I' A' J' := by
  unfold am_wr am_wd
  simp only
  rw [am_getD_set _ _ _ _ hc, h]
theorem wr_0 {I A : Nat → Nat → Int32} {J : Nat → Nat → Int64} : am_rd (am_wd I A J) 0 = .inr (10, [.ref 1, .ref 6, .ref 36, .ref 41, .ref 46, .ref 53, .ref 60, .ref 65, .ref 68, .int (I 0 9), .int (I 0 10), .int (I 0 11)]) := rfl
theorem wo_0 {I A : Nat → Nat → Int32} {J : Nat → Nat → Int64} : am_isO 10 (am_rd (am_wd I A J) 0) = true := rfl
theorem wf_0_0 {I A : Nat → Nat → Int32} {J : Nat → Nat → Int64} : am_isF 10 0 (am_rd (am_wd I A J) 0) = true := rfl
theorem wv_0_0 {I A : Nat → Nat → Int32} {J : Nat → Nat → Int64} : am_fld 0 (am_rd (am_wd I A J) 0) = .ref 1 := rfl
theorem wf_0_1 {I A : Nat → Nat → Int32} {J : Nat → Nat → Int64} : am_isF 10 1 (am_rd (am_wd I A J) 0) = true := rfl
theorem wv_0_1 {I A : Nat → Nat → Int32} {J : Nat → Nat → Int64} : am_fld 1 (am_rd (am_wd I A J) 0) = .ref 6 := rfl
theorem wf_0_2 {I A : Nat → Nat → Int32} {J : Nat → Nat → Int64} : am_isF 10 2 (am_rd (am_wd I A J) 0) = true := rfl
theorem wv_0_2 {I A : Nat → Nat → Int32} {J : Nat → Nat → Int64} : am_fld 2 (am_rd (am_wd I A J) 0) = .ref 36 := rfl
theorem wf_0_3 {I A : Nat → Nat → Int32} {J : Nat → Nat → Int64} : am_isF 10 3 (am_rd (am_wd I A J) 0) = true := rfl
theorem wv_0_3 {I A : Nat → Nat → Int32} {J : Nat → Nat → Int64} : am_fld 3 (am_rd (am_wd I A J) 0) = .ref 41 := rfl
theorem wf_0_4 {I A : Nat → Nat → Int32} {J : Nat → Nat → Int64} : am_isF 10 4 (am_rd (am_wd I A J) 0) = true := rfl
theorem wv_0_4 {I A : Nat → Nat → Int32} {J : Nat → Nat → Int64} : am_fld 4 (am_rd (am_wd I A J) 0) = .ref 46 := rfl
theorem wf_0_5 {I A : Nat → Nat → Int32} {J : Nat → Nat → Int64} : am_isF 10 5 (am_rd (am_wd I A J) 0) = true := rfl
theorem wv_0_5 {I A : Nat → Nat → Int32} {J : Nat → Nat → Int64} : am_fld 5 (am_rd (am_wd I A J) 0) = .ref 53 := rfl
theorem wf_0_6 {I A : Nat → Nat → Int32} {J : Nat → Nat → Int64} : am_isF 10 6 (am_rd (am_wd I A J) 0) = true := rfl
theorem wv_0_6 {I A : Nat → Nat → Int32} {J : Nat → Nat → Int64} : am_fld 6 (am_rd (am_wd I A J) 0) = .ref 60 := rfl
theorem wf_0_7 {I A : Nat → Nat → Int32} {J : Nat → Nat → Int64} : am_isF 10 7 (am_rd (am_wd I A J) 0) = true := rfl
theorem wv_0_7 {I A : Nat → Nat → Int32} {J : Nat → Nat → Int64} : am_fld 7 (am_rd (am_wd I A J) 0) = .ref 65 := rfl
theorem wf_0_8 {I A : Nat → Nat → Int32} {J : Nat → Nat → Int64} : am_isF 10 8 (am_rd (am_wd I A J) 0) = true := rfl
theorem wv_0_8 {I A : Nat → Nat → Int32} {J : Nat → Nat → Int64} : am_fld 8 (am_rd (am_wd I A J) 0) = .ref 68 := rfl
theorem wf_0_9 {I A : Nat → Nat → Int32} {J : Nat → Nat → Int64} : am_isF 10 9 (am_rd (am_wd I A J) 0) = true := rfl
theorem wv_0_9 {I A : Nat → Nat → Int32} {J : Nat → Nat → Int64} : am_fld 9 (am_rd (am_wd I A J) 0) = .int (I 0 9) := rfl
theorem wp_0_9 {I A : Nat → Nat → Int32} {J : Nat → Nat → Int64} {x : Int32} : am_wr (am_wd I A J) 0 (am_put 9 (am_rd (am_wd I A J) 0) (.int x)) = am_wd (am_u2 I 0 9 x) A J := am_wd_wr (Nat.le_of_ble_eq_true rfl) rfl
theorem wf_0_10 {I A : Nat → Nat → Int32} {J : Nat → Nat → Int64} : am_isF 10 10 (am_rd (am_wd I A J) 0) = true := rfl
theorem wv_0_10 {I A : Nat → Nat → Int32} {J : Nat → Nat → Int64} : am_fld 10 (am_rd (am_wd I A J) 0) = .int (I 0 10) := rfl
theorem wp_0_10 {I A : Nat → Nat → Int32} {J : Nat → Nat → Int64} {x : Int32} : am_wr (am_wd I A J) 0 (am_put 10 (am_rd (am_wd I A J) 0) (.int x)) = am_wd (am_u2 I 0 10 x) A J := am_wd_wr (Nat.le_of_ble_eq_true rfl) rfl
theorem wf_0_11 {I A : Nat → Nat → Int32} {J : Nat → Nat → Int64} : am_isF 10 11 (am_rd (am_wd I A J) 0) = true := rfl
theorem wv_0_11 {I A : Nat → Nat → Int32} {J : Nat → Nat → Int64} : am_fld 11 (am_rd (am_wd I A J) 0) = .int (I 0 11) := rfl
theorem wp_0_11 {I A : Nat → Nat → Int32} {J : Nat → Nat → Int64} {x : Int32} : am_wr (am_wd I A J) 0 (am_put 11 (am_rd (am_wd I A J) 0) (.int x)) = am_wd (am_u2 I 0 11 x) A J := am_wd_wr (Nat.le_of_ble_eq_true rfl) rfl
theorem wr_1 {I A : Nat → Nat → Int32} {J : Nat → Nat → Int64} : am_rd (am_wd I A J) 1 = .inr (9, [.ref 2, .int (I 1 1), .int (I 1 2), .ref 3, .int (I 1 4), .ref 4, .ref 5, .int (I 1 7)]) := rfl
theorem wo_1 {I A : Nat → Nat → Int32} {J : Nat → Nat → Int64} : am_isO 9 (am_rd (am_wd I A J) 1) = true := rfl
theorem wf_1_0 {I A : Nat → Nat → Int32} {J : Nat → Nat → Int64} : am_isF 9 0 (am_rd (am_wd I A J) 1) = true := rfl
theorem wv_1_0 {I A : Nat → Nat → Int32} {J : Nat → Nat → Int64} : am_fld 0 (am_rd (am_wd I A J) 1) = .ref 2 := rfl
theorem wf_1_1 {I A : Nat → Nat → Int32} {J : Nat → Nat → Int64} : am_isF 9 1 (am_rd (am_wd I A J) 1) = true := rfl
theorem wv_1_1 {I A : Nat → Nat → Int32} {J : Nat → Nat → Int64} : am_fld 1 (am_rd (am_wd I A J) 1) = .int (I 1 1) := rfl
theorem wp_1_1 {I A : Nat → Nat → Int32} {J : Nat → Nat → Int64} {x : Int32} : am_wr (am_wd I A J) 1 (am_put 1 (am_rd (am_wd I A J) 1) (.int x)) = am_wd (am_u2 I 1 1 x) A J := am_wd_wr (Nat.le_of_ble_eq_true rfl) rfl
theorem wf_1_2 {I A : Nat → Nat → Int32} {J : Nat → Nat → Int64} : am_isF 9 2 (am_rd (am_wd I A J) 1) = true := rfl
theorem wv_1_2 {I A : Nat → Nat → Int32} {J : Nat → Nat → Int64} : am_fld 2 (am_rd (am_wd I A J) 1) = .int (I 1 2) := rfl
theorem wp_1_2 {I A : Nat → Nat → Int32} {J : Nat → Nat → Int64} {x : Int32} : am_wr (am_wd I A J) 1 (am_put 2 (am_rd (am_wd I A J) 1) (.int x)) = am_wd (am_u2 I 1 2 x) A J := am_wd_wr (Nat.le_of_ble_eq_true rfl) rfl
theorem wf_1_3 {I A : Nat → Nat → Int32} {J : Nat → Nat → Int64} : am_isF 9 3 (am_rd (am_wd I A J) 1) = true := rfl
theorem wv_1_3 {I A : Nat → Nat → Int32} {J : Nat → Nat → Int64} : am_fld 3 (am_rd (am_wd I A J) 1) = .ref 3 := rfl
theorem wf_1_4 {I A : Nat → Nat → Int32} {J : Nat → Nat → Int64} : am_isF 9 4 (am_rd (am_wd I A J) 1) = true := rfl
theorem wv_1_4 {I A : Nat → Nat → Int32} {J : Nat → Nat → Int64} : am_fld 4 (am_rd (am_wd I A J) 1) = .int (I 1 4) := rfl
theorem wp_1_4 {I A : Nat → Nat → Int32} {J : Nat → Nat → Int64} {x : Int32} : am_wr (am_wd I A J) 1 (am_put 4 (am_rd (am_wd I A J) 1) (.int x)) = am_wd (am_u2 I 1 4 x) A J := am_wd_wr (Nat.le_of_ble_eq_true rfl) rfl
theorem wf_1_5 {I A : Nat → Nat → Int32} {J : Nat → Nat → Int64} : am_isF 9 5 (am_rd (am_wd I A J) 1) = true := rfl
theorem wv_1_5 {I A : Nat → Nat → Int32} {J : Nat → Nat → Int64} : am_fld 5 (am_rd (am_wd I A J) 1) = .ref 4 := rfl
theorem wf_1_6 {I A : Nat → Nat → Int32} {J : Nat → Nat → Int64} : am_isF 9 6 (am_rd (am_wd I A J) 1) = true := rfl
theorem wv_1_6 {I A : Nat → Nat → Int32} {J : Nat → Nat → Int64} : am_fld 6 (am_rd (am_wd I A J) 1) = .ref 5 := rfl
theorem wf_1_7 {I A : Nat → Nat → Int32} {J : Nat → Nat → Int64} : am_isF 9 7 (am_rd (am_wd I A J) 1) = true := rfl
theorem wv_1_7 {I A : Nat → Nat → Int32} {J : Nat → Nat → Int64} : am_fld 7 (am_rd (am_wd I A J) 1) = .int (I 1 7) := rfl
theorem wp_1_7 {I A : Nat → Nat → Int32} {J : Nat → Nat → Int64} {x : Int32} : am_wr (am_wd I A J) 1 (am_put 7 (am_rd (am_wd I A J) 1) (.int x)) = am_wd (am_u2 I 1 7 x) A J := am_wd_wr (Nat.le_of_ble_eq_true rfl) rfl
theorem wr_2 {I A : Nat → Nat → Int32} {J : Nat → Nat → Int64} : am_rd (am_wd I A J) 2 = .inl (0, 120, .inl (A 2)) := rfl
theorem wi_2 {I A : Nat → Nat → Int32} {J : Nat → Nat → Int64} {i : Int32} : am_isI 0 (am_rd (am_wd I A J) 2) i = am_in i 120 := rfl
theorem wg_2 {I A : Nat → Nat → Int32} {J : Nat → Nat → Int64} {i : Int32} : am_geI (am_rd (am_wd I A J) 2) i = A 2 i.toNatClampNeg := rfl
theorem ws_2 {I A : Nat → Nat → Int32} {J : Nat → Nat → Int64} {i x : Int32} : am_wr (am_wd I A J) 2 (am_seI (am_rd (am_wd I A J) 2) i x) = am_wd I (am_u A 2 (upd (A 2) i.toNatClampNeg x)) J := am_wd_wr (Nat.le_of_ble_eq_true rfl) rfl
theorem ww_2 {I A : Nat → Nat → Int32} {J : Nat → Nat → Int64} {g : Nat → Int32} : am_wr (am_wd I A J) 2 (.inl (0, 120, .inl g)) = am_wd I (am_u A 2 g) J := am_wd_wr (Nat.le_of_ble_eq_true rfl) rfl
theorem wl_2 {I A : Nat → Nat → Int32} {J : Nat → Nat → Int64} : am_isL (am_rd (am_wd I A J) 2) = true := rfl
theorem wn_2 {I A : Nat → Nat → Int32} {J : Nat → Nat → Int64} : am_len (am_rd (am_wd I A J) 2) = 120 := rfl
theorem wr_3 {I A : Nat → Nat → Int32} {J : Nat → Nat → Int64} : am_rd (am_wd I A J) 3 = .inl (0, 120, .inl (A 3)) := rfl
theorem wi_3 {I A : Nat → Nat → Int32} {J : Nat → Nat → Int64} {i : Int32} : am_isI 0 (am_rd (am_wd I A J) 3) i = am_in i 120 := rfl
theorem wg_3 {I A : Nat → Nat → Int32} {J : Nat → Nat → Int64} {i : Int32} : am_geI (am_rd (am_wd I A J) 3) i = A 3 i.toNatClampNeg := rfl
theorem ws_3 {I A : Nat → Nat → Int32} {J : Nat → Nat → Int64} {i x : Int32} : am_wr (am_wd I A J) 3 (am_seI (am_rd (am_wd I A J) 3) i x) = am_wd I (am_u A 3 (upd (A 3) i.toNatClampNeg x)) J := am_wd_wr (Nat.le_of_ble_eq_true rfl) rfl
theorem ww_3 {I A : Nat → Nat → Int32} {J : Nat → Nat → Int64} {g : Nat → Int32} : am_wr (am_wd I A J) 3 (.inl (0, 120, .inl g)) = am_wd I (am_u A 3 g) J := am_wd_wr (Nat.le_of_ble_eq_true rfl) rfl
theorem wl_3 {I A : Nat → Nat → Int32} {J : Nat → Nat → Int64} : am_isL (am_rd (am_wd I A J) 3) = true := rfl
theorem wn_3 {I A : Nat → Nat → Int32} {J : Nat → Nat → Int64} : am_len (am_rd (am_wd I A J) 3) = 120 := rfl
theorem wr_4 {I A : Nat → Nat → Int32} {J : Nat → Nat → Int64} : am_rd (am_wd I A J) 4 = .inl (0, 60, .inl (A 4)) := rfl
theorem wi_4 {I A : Nat → Nat → Int32} {J : Nat → Nat → Int64} {i : Int32} : am_isI 0 (am_rd (am_wd I A J) 4) i = am_in i 60 := rfl
theorem wg_4 {I A : Nat → Nat → Int32} {J : Nat → Nat → Int64} {i : Int32} : am_geI (am_rd (am_wd I A J) 4) i = A 4 i.toNatClampNeg := rfl
theorem ws_4 {I A : Nat → Nat → Int32} {J : Nat → Nat → Int64} {i x : Int32} : am_wr (am_wd I A J) 4 (am_seI (am_rd (am_wd I A J) 4) i x) = am_wd I (am_u A 4 (upd (A 4) i.toNatClampNeg x)) J := am_wd_wr (Nat.le_of_ble_eq_true rfl) rfl
theorem ww_4 {I A : Nat → Nat → Int32} {J : Nat → Nat → Int64} {g : Nat → Int32} : am_wr (am_wd I A J) 4 (.inl (0, 60, .inl g)) = am_wd I (am_u A 4 g) J := am_wd_wr (Nat.le_of_ble_eq_true rfl) rfl
theorem wl_4 {I A : Nat → Nat → Int32} {J : Nat → Nat → Int64} : am_isL (am_rd (am_wd I A J) 4) = true := rfl
theorem wn_4 {I A : Nat → Nat → Int32} {J : Nat → Nat → Int64} : am_len (am_rd (am_wd I A J) 4) = 60 := rfl
theorem wr_5 {I A : Nat → Nat → Int32} {J : Nat → Nat → Int64} : am_rd (am_wd I A J) 5 = .inl (0, 60, .inl (A 5)) := rfl
theorem wi_5 {I A : Nat → Nat → Int32} {J : Nat → Nat → Int64} {i : Int32} : am_isI 0 (am_rd (am_wd I A J) 5) i = am_in i 60 := rfl
theorem wg_5 {I A : Nat → Nat → Int32} {J : Nat → Nat → Int64} {i : Int32} : am_geI (am_rd (am_wd I A J) 5) i = A 5 i.toNatClampNeg := rfl
theorem ws_5 {I A : Nat → Nat → Int32} {J : Nat → Nat → Int64} {i x : Int32} : am_wr (am_wd I A J) 5 (am_seI (am_rd (am_wd I A J) 5) i x) = am_wd I (am_u A 5 (upd (A 5) i.toNatClampNeg x)) J := am_wd_wr (Nat.le_of_ble_eq_true rfl) rfl
theorem ww_5 {I A : Nat → Nat → Int32} {J : Nat → Nat → Int64} {g : Nat → Int32} : am_wr (am_wd I A J) 5 (.inl (0, 60, .inl g)) = am_wd I (am_u A 5 g) J := am_wd_wr (Nat.le_of_ble_eq_true rfl) rfl
theorem wl_5 {I A : Nat → Nat → Int32} {J : Nat → Nat → Int64} : am_isL (am_rd (am_wd I A J) 5) = true := rfl
theorem wn_5 {I A : Nat → Nat → Int32} {J : Nat → Nat → Int64} : am_len (am_rd (am_wd I A J) 5) = 60 := rfl
theorem wr_6 {I A : Nat → Nat → Int32} {J : Nat → Nat → Int64} : am_rd (am_wd I A J) 6 = .inr (2, [.ref 7, .ref 13, .int (I 6 2), .ref 14, .ref 15, .ref 19, .int (I 6 6)]) := rfl
theorem wo_6 {I A : Nat → Nat → Int32} {J : Nat → Nat → Int64} : am_isO 2 (am_rd (am_wd I A J) 6) = true := rfl
theorem wf_6_0 {I A : Nat → Nat → Int32} {J : Nat → Nat → Int64} : am_isF 2 0 (am_rd (am_wd I A J) 6) = true := rfl
theorem wv_6_0 {I A : Nat → Nat → Int32} {J : Nat → Nat → Int64} : am_fld 0 (am_rd (am_wd I A J) 6) = .ref 7 := rfl
theorem wf_6_1 {I A : Nat → Nat → Int32} {J : Nat → Nat → Int64} : am_isF 2 1 (am_rd (am_wd I A J) 6) = true := rfl
theorem wv_6_1 {I A : Nat → Nat → Int32} {J : Nat → Nat → Int64} : am_fld 1 (am_rd (am_wd I A J) 6) = .ref 13 := rfl
theorem wf_6_2 {I A : Nat → Nat → Int32} {J : Nat → Nat → Int64} : am_isF 2 2 (am_rd (am_wd I A J) 6) = true := rfl
theorem wv_6_2 {I A : Nat → Nat → Int32} {J : Nat → Nat → Int64} : am_fld 2 (am_rd (am_wd I A J) 6) = .int (I 6 2) := rfl
theorem wp_6_2 {I A : Nat → Nat → Int32} {J : Nat → Nat → Int64} {x : Int32} : am_wr (am_wd I A J) 6 (am_put 2 (am_rd (am_wd I A J) 6) (.int x)) = am_wd (am_u2 I 6 2 x) A J := am_wd_wr (Nat.le_of_ble_eq_true rfl) rfl
theorem wf_6_3 {I A : Nat → Nat → Int32} {J : Nat → Nat → Int64} : am_isF 2 3 (am_rd (am_wd I A J) 6) = true := rfl
theorem wv_6_3 {I A : Nat → Nat → Int32} {J : Nat → Nat → Int64} : am_fld 3 (am_rd (am_wd I A J) 6) = .ref 14 := rfl
theorem wf_6_4 {I A : Nat → Nat → Int32} {J : Nat → Nat → Int64} : am_isF 2 4 (am_rd (am_wd I A J) 6) = true := rfl
theorem wv_6_4 {I A : Nat → Nat → Int32} {J : Nat → Nat → Int64} : am_fld 4 (am_rd (am_wd I A J) 6) = .ref 15 := rfl
theorem wf_6_5 {I A : Nat → Nat → Int32} {J : Nat → Nat → Int64} : am_isF 2 5 (am_rd (am_wd I A J) 6) = true := rfl
theorem wv_6_5 {I A : Nat → Nat → Int32} {J : Nat → Nat → Int64} : am_fld 5 (am_rd (am_wd I A J) 6) = .ref 19 := rfl
theorem wf_6_6 {I A : Nat → Nat → Int32} {J : Nat → Nat → Int64} : am_isF 2 6 (am_rd (am_wd I A J) 6) = true := rfl
theorem wv_6_6 {I A : Nat → Nat → Int32} {J : Nat → Nat → Int64} : am_fld 6 (am_rd (am_wd I A J) 6) = .int (I 6 6) := rfl
theorem wp_6_6 {I A : Nat → Nat → Int32} {J : Nat → Nat → Int64} {x : Int32} : am_wr (am_wd I A J) 6 (am_put 6 (am_rd (am_wd I A J) 6) (.int x)) = am_wd (am_u2 I 6 6 x) A J := am_wd_wr (Nat.le_of_ble_eq_true rfl) rfl
theorem wr_7 {I A : Nat → Nat → Int32} {J : Nat → Nat → Int64} : am_rd (am_wd I A J) 7 = .inr (4, [.ref 8, .ref 9, .ref 10, .int (I 7 3), .ref 11, .ref 12]) := rfl
theorem wo_7 {I A : Nat → Nat → Int32} {J : Nat → Nat → Int64} : am_isO 4 (am_rd (am_wd I A J) 7) = true := rfl
theorem wf_7_0 {I A : Nat → Nat → Int32} {J : Nat → Nat → Int64} : am_isF 4 0 (am_rd (am_wd I A J) 7) = true := rfl
theorem wv_7_0 {I A : Nat → Nat → Int32} {J : Nat → Nat → Int64} : am_fld 0 (am_rd (am_wd I A J) 7) = .ref 8 := rfl
theorem wf_7_1 {I A : Nat → Nat → Int32} {J : Nat → Nat → Int64} : am_isF 4 1 (am_rd (am_wd I A J) 7) = true := rfl
theorem wv_7_1 {I A : Nat → Nat → Int32} {J : Nat → Nat → Int64} : am_fld 1 (am_rd (am_wd I A J) 7) = .ref 9 := rfl
theorem wf_7_2 {I A : Nat → Nat → Int32} {J : Nat → Nat → Int64} : am_isF 4 2 (am_rd (am_wd I A J) 7) = true := rfl
theorem wv_7_2 {I A : Nat → Nat → Int32} {J : Nat → Nat → Int64} : am_fld 2 (am_rd (am_wd I A J) 7) = .ref 10 := rfl
theorem wf_7_3 {I A : Nat → Nat → Int32} {J : Nat → Nat → Int64} : am_isF 4 3 (am_rd (am_wd I A J) 7) = true := rfl
theorem wv_7_3 {I A : Nat → Nat → Int32} {J : Nat → Nat → Int64} : am_fld 3 (am_rd (am_wd I A J) 7) = .int (I 7 3) := rfl
theorem wp_7_3 {I A : Nat → Nat → Int32} {J : Nat → Nat → Int64} {x : Int32} : am_wr (am_wd I A J) 7 (am_put 3 (am_rd (am_wd I A J) 7) (.int x)) = am_wd (am_u2 I 7 3 x) A J := am_wd_wr (Nat.le_of_ble_eq_true rfl) rfl
theorem wf_7_4 {I A : Nat → Nat → Int32} {J : Nat → Nat → Int64} : am_isF 4 4 (am_rd (am_wd I A J) 7) = true := rfl
theorem wv_7_4 {I A : Nat → Nat → Int32} {J : Nat → Nat → Int64} : am_fld 4 (am_rd (am_wd I A J) 7) = .ref 11 := rfl
theorem wf_7_5 {I A : Nat → Nat → Int32} {J : Nat → Nat → Int64} : am_isF 4 5 (am_rd (am_wd I A J) 7) = true := rfl
theorem wv_7_5 {I A : Nat → Nat → Int32} {J : Nat → Nat → Int64} : am_fld 5 (am_rd (am_wd I A J) 7) = .ref 12 := rfl
theorem wr_8 {I A : Nat → Nat → Int32} {J : Nat → Nat → Int64} : am_rd (am_wd I A J) 8 = .inl (0, 120, .inl (A 8)) := rfl
theorem wi_8 {I A : Nat → Nat → Int32} {J : Nat → Nat → Int64} {i : Int32} : am_isI 0 (am_rd (am_wd I A J) 8) i = am_in i 120 := rfl
theorem wg_8 {I A : Nat → Nat → Int32} {J : Nat → Nat → Int64} {i : Int32} : am_geI (am_rd (am_wd I A J) 8) i = A 8 i.toNatClampNeg := rfl
theorem ws_8 {I A : Nat → Nat → Int32} {J : Nat → Nat → Int64} {i x : Int32} : am_wr (am_wd I A J) 8 (am_seI (am_rd (am_wd I A J) 8) i x) = am_wd I (am_u A 8 (upd (A 8) i.toNatClampNeg x)) J := am_wd_wr (Nat.le_of_ble_eq_true rfl) rfl
theorem ww_8 {I A : Nat → Nat → Int32} {J : Nat → Nat → Int64} {g : Nat → Int32} : am_wr (am_wd I A J) 8 (.inl (0, 120, .inl g)) = am_wd I (am_u A 8 g) J := am_wd_wr (Nat.le_of_ble_eq_true rfl) rfl
theorem wl_8 {I A : Nat → Nat → Int32} {J : Nat → Nat → Int64} : am_isL (am_rd (am_wd I A J) 8) = true := rfl
theorem wn_8 {I A : Nat → Nat → Int32} {J : Nat → Nat → Int64} : am_len (am_rd (am_wd I A J) 8) = 120 := rfl
theorem wr_9 {I A : Nat → Nat → Int32} {J : Nat → Nat → Int64} : am_rd (am_wd I A J) 9 = .inl (0, 60, .inl (A 9)) := rfl
theorem wi_9 {I A : Nat → Nat → Int32} {J : Nat → Nat → Int64} {i : Int32} : am_isI 0 (am_rd (am_wd I A J) 9) i = am_in i 60 := rfl
theorem wg_9 {I A : Nat → Nat → Int32} {J : Nat → Nat → Int64} {i : Int32} : am_geI (am_rd (am_wd I A J) 9) i = A 9 i.toNatClampNeg := rfl
theorem ws_9 {I A : Nat → Nat → Int32} {J : Nat → Nat → Int64} {i x : Int32} : am_wr (am_wd I A J) 9 (am_seI (am_rd (am_wd I A J) 9) i x) = am_wd I (am_u A 9 (upd (A 9) i.toNatClampNeg x)) J := am_wd_wr (Nat.le_of_ble_eq_true rfl) rfl
theorem ww_9 {I A : Nat → Nat → Int32} {J : Nat → Nat → Int64} {g : Nat → Int32} : am_wr (am_wd I A J) 9 (.inl (0, 60, .inl g)) = am_wd I (am_u A 9 g) J := am_wd_wr (Nat.le_of_ble_eq_true rfl) rfl
theorem wl_9 {I A : Nat → Nat → Int32} {J : Nat → Nat → Int64} : am_isL (am_rd (am_wd I A J) 9) = true := rfl
theorem wn_9 {I A : Nat → Nat → Int32} {J : Nat → Nat → Int64} : am_len (am_rd (am_wd I A J) 9) = 60 := rfl
theorem wr_10 {I A : Nat → Nat → Int32} {J : Nat → Nat → Int64} : am_rd (am_wd I A J) 10 = .inl (0, 60, .inl (A 10)) := rfl
theorem wi_10 {I A : Nat → Nat → Int32} {J : Nat → Nat → Int64} {i : Int32} : am_isI 0 (am_rd (am_wd I A J) 10) i = am_in i 60 := rfl
theorem wg_10 {I A : Nat → Nat → Int32} {J : Nat → Nat → Int64} {i : Int32} : am_geI (am_rd (am_wd I A J) 10) i = A 10 i.toNatClampNeg := rfl
theorem ws_10 {I A : Nat → Nat → Int32} {J : Nat → Nat → Int64} {i x : Int32} : am_wr (am_wd I A J) 10 (am_seI (am_rd (am_wd I A J) 10) i x) = am_wd I (am_u A 10 (upd (A 10) i.toNatClampNeg x)) J := am_wd_wr (Nat.le_of_ble_eq_true rfl) rfl
theorem ww_10 {I A : Nat → Nat → Int32} {J : Nat → Nat → Int64} {g : Nat → Int32} : am_wr (am_wd I A J) 10 (.inl (0, 60, .inl g)) = am_wd I (am_u A 10 g) J := am_wd_wr (Nat.le_of_ble_eq_true rfl) rfl
theorem wl_10 {I A : Nat → Nat → Int32} {J : Nat → Nat → Int64} : am_isL (am_rd (am_wd I A J) 10) = true := rfl
theorem wn_10 {I A : Nat → Nat → Int32} {J : Nat → Nat → Int64} : am_len (am_rd (am_wd I A J) 10) = 60 := rfl
theorem wr_11 {I A : Nat → Nat → Int32} {J : Nat → Nat → Int64} : am_rd (am_wd I A J) 11 = .inl (0, 120, .inl (A 11)) := rfl
theorem wi_11 {I A : Nat → Nat → Int32} {J : Nat → Nat → Int64} {i : Int32} : am_isI 0 (am_rd (am_wd I A J) 11) i = am_in i 120 := rfl
theorem wg_11 {I A : Nat → Nat → Int32} {J : Nat → Nat → Int64} {i : Int32} : am_geI (am_rd (am_wd I A J) 11) i = A 11 i.toNatClampNeg := rfl
theorem ws_11 {I A : Nat → Nat → Int32} {J : Nat → Nat → Int64} {i x : Int32} : am_wr (am_wd I A J) 11 (am_seI (am_rd (am_wd I A J) 11) i x) = am_wd I (am_u A 11 (upd (A 11) i.toNatClampNeg x)) J := am_wd_wr (Nat.le_of_ble_eq_true rfl) rfl
theorem ww_11 {I A : Nat → Nat → Int32} {J : Nat → Nat → Int64} {g : Nat → Int32} : am_wr (am_wd I A J) 11 (.inl (0, 120, .inl g)) = am_wd I (am_u A 11 g) J := am_wd_wr (Nat.le_of_ble_eq_true rfl) rfl
theorem wl_11 {I A : Nat → Nat → Int32} {J : Nat → Nat → Int64} : am_isL (am_rd (am_wd I A J) 11) = true := rfl
theorem wn_11 {I A : Nat → Nat → Int32} {J : Nat → Nat → Int64} : am_len (am_rd (am_wd I A J) 11) = 120 := rfl
theorem wr_12 {I A : Nat → Nat → Int32} {J : Nat → Nat → Int64} : am_rd (am_wd I A J) 12 = .inl (0, 6, .inl (A 12)) := rfl
theorem wi_12 {I A : Nat → Nat → Int32} {J : Nat → Nat → Int64} {i : Int32} : am_isI 0 (am_rd (am_wd I A J) 12) i = am_in i 6 := rfl
theorem wg_12 {I A : Nat → Nat → Int32} {J : Nat → Nat → Int64} {i : Int32} : am_geI (am_rd (am_wd I A J) 12) i = A 12 i.toNatClampNeg := rfl
theorem ws_12 {I A : Nat → Nat → Int32} {J : Nat → Nat → Int64} {i x : Int32} : am_wr (am_wd I A J) 12 (am_seI (am_rd (am_wd I A J) 12) i x) = am_wd I (am_u A 12 (upd (A 12) i.toNatClampNeg x)) J := am_wd_wr (Nat.le_of_ble_eq_true rfl) rfl
theorem ww_12 {I A : Nat → Nat → Int32} {J : Nat → Nat → Int64} {g : Nat → Int32} : am_wr (am_wd I A J) 12 (.inl (0, 6, .inl g)) = am_wd I (am_u A 12 g) J := am_wd_wr (Nat.le_of_ble_eq_true rfl) rfl
theorem wl_12 {I A : Nat → Nat → Int32} {J : Nat → Nat → Int64} : am_isL (am_rd (am_wd I A J) 12) = true := rfl
theorem wn_12 {I A : Nat → Nat → Int32} {J : Nat → Nat → Int64} : am_len (am_rd (am_wd I A J) 12) = 6 := rfl
theorem wr_13 {I A : Nat → Nat → Int32} {J : Nat → Nat → Int64} : am_rd (am_wd I A J) 13 = .inl (0, 40, .inl (A 13)) := rfl
theorem wi_13 {I A : Nat → Nat → Int32} {J : Nat → Nat → Int64} {i : Int32} : am_isI 0 (am_rd (am_wd I A J) 13) i = am_in i 40 := rfl
theorem wg_13 {I A : Nat → Nat → Int32} {J : Nat → Nat → Int64} {i : Int32} : am_geI (am_rd (am_wd I A J) 13) i = A 13 i.toNatClampNeg := rfl
theorem ws_13 {I A : Nat → Nat → Int32} {J : Nat → Nat → Int64} {i x : Int32} : am_wr (am_wd I A J) 13 (am_seI (am_rd (am_wd I A J) 13) i x) = am_wd I (am_u A 13 (upd (A 13) i.toNatClampNeg x)) J := am_wd_wr (Nat.le_of_ble_eq_true rfl) rfl
theorem ww_13 {I A : Nat → Nat → Int32} {J : Nat → Nat → Int64} {g : Nat → Int32} : am_wr (am_wd I A J) 13 (.inl (0, 40, .inl g)) = am_wd I (am_u A 13 g) J := am_wd_wr (Nat.le_of_ble_eq_true rfl) rfl
theorem wl_13 {I A : Nat → Nat → Int32} {J : Nat → Nat → Int64} : am_isL (am_rd (am_wd I A J) 13) = true := rfl
theorem wn_13 {I A : Nat → Nat → Int32} {J : Nat → Nat → Int64} : am_len (am_rd (am_wd I A J) 13) = 40 := rfl
theorem wr_14 {I A : Nat → Nat → Int32} {J : Nat → Nat → Int64} : am_rd (am_wd I A J) 14 = .inl (0, 5, .inl (A 14)) := rfl
theorem wi_14 {I A : Nat → Nat → Int32} {J : Nat → Nat → Int64} {i : Int32} : am_isI 0 (am_rd (am_wd I A J) 14) i = am_in i 5 := rfl
theorem wg_14 {I A : Nat → Nat → Int32} {J : Nat → Nat → Int64} {i : Int32} : am_geI (am_rd (am_wd I A J) 14) i = A 14 i.toNatClampNeg := rfl
theorem ws_14 {I A : Nat → Nat → Int32} {J : Nat → Nat → Int64} {i x : Int32} : am_wr (am_wd I A J) 14 (am_seI (am_rd (am_wd I A J) 14) i x) = am_wd I (am_u A 14 (upd (A 14) i.toNatClampNeg x)) J := am_wd_wr (Nat.le_of_ble_eq_true rfl) rfl
theorem ww_14 {I A : Nat → Nat → Int32} {J : Nat → Nat → Int64} {g : Nat → Int32} : am_wr (am_wd I A J) 14 (.inl (0, 5, .inl g)) = am_wd I (am_u A 14 g) J := am_wd_wr (Nat.le_of_ble_eq_true rfl) rfl
theorem wl_14 {I A : Nat → Nat → Int32} {J : Nat → Nat → Int64} : am_isL (am_rd (am_wd I A J) 14) = true := rfl
theorem wn_14 {I A : Nat → Nat → Int32} {J : Nat → Nat → Int64} : am_len (am_rd (am_wd I A J) 14) = 5 := rfl
theorem wr_15 {I A : Nat → Nat → Int32} {J : Nat → Nat → Int64} : am_rd (am_wd I A J) 15 = .inr (6, [.ref 16, .ref 17, .int (I 15 2), .ref 18, .int (I 15 4)]) := rfl
theorem wo_15 {I A : Nat → Nat → Int32} {J : Nat → Nat → Int64} : am_isO 6 (am_rd (am_wd I A J) 15) = true := rfl
theorem wf_15_0 {I A : Nat → Nat → Int32} {J : Nat → Nat → Int64} : am_isF 6 0 (am_rd (am_wd I A J) 15) = true := rfl
theorem wv_15_0 {I A : Nat → Nat → Int32} {J : Nat → Nat → Int64} : am_fld 0 (am_rd (am_wd I A J) 15) = .ref 16 := rfl
theorem wf_15_1 {I A : Nat → Nat → Int32} {J : Nat → Nat → Int64} : am_isF 6 1 (am_rd (am_wd I A J) 15) = true := rfl
theorem wv_15_1 {I A : Nat → Nat → Int32} {J : Nat → Nat → Int64} : am_fld 1 (am_rd (am_wd I A J) 15) = .ref 17 := rfl
theorem wf_15_2 {I A : Nat → Nat → Int32} {J : Nat → Nat → Int64} : am_isF 6 2 (am_rd (am_wd I A J) 15) = true := rfl
theorem wv_15_2 {I A : Nat → Nat → Int32} {J : Nat → Nat → Int64} : am_fld 2 (am_rd (am_wd I A J) 15) = .int (I 15 2) := rfl
theorem wp_15_2 {I A : Nat → Nat → Int32} {J : Nat → Nat → Int64} {x : Int32} : am_wr (am_wd I A J) 15 (am_put 2 (am_rd (am_wd I A J) 15) (.int x)) = am_wd (am_u2 I 15 2 x) A J := am_wd_wr (Nat.le_of_ble_eq_true rfl) rfl
theorem wf_15_3 {I A : Nat → Nat → Int32} {J : Nat → Nat → Int64} : am_isF 6 3 (am_rd (am_wd I A J) 15) = true := rfl
theorem wv_15_3 {I A : Nat → Nat → Int32} {J : Nat → Nat → Int64} : am_fld 3 (am_rd (am_wd I A J) 15) = .ref 18 := rfl
theorem wf_15_4 {I A : Nat → Nat → Int32} {J : Nat → Nat → Int64} : am_isF 6 4 (am_rd (am_wd I A J) 15) = true := rfl
theorem wv_15_4 {I A : Nat → Nat → Int32} {J : Nat → Nat → Int64} : am_fld 4 (am_rd (am_wd I A J) 15) = .int (I 15 4) := rfl
theorem wp_15_4 {I A : Nat → Nat → Int32} {J : Nat → Nat → Int64} {x : Int32} : am_wr (am_wd I A J) 15 (am_put 4 (am_rd (am_wd I A J) 15) (.int x)) = am_wd (am_u2 I 15 4 x) A J := am_wd_wr (Nat.le_of_ble_eq_true rfl) rfl
theorem wr_16 {I A : Nat → Nat → Int32} {J : Nat → Nat → Int64} : am_rd (am_wd I A J) 16 = .inl (0, 8, .inl (A 16)) := rfl
theorem wi_16 {I A : Nat → Nat → Int32} {J : Nat → Nat → Int64} {i : Int32} : am_isI 0 (am_rd (am_wd I A J) 16) i = am_in i 8 := rfl
theorem wg_16 {I A : Nat → Nat → Int32} {J : Nat → Nat → Int64} {i : Int32} : am_geI (am_rd (am_wd I A J) 16) i = A 16 i.toNatClampNeg := rfl
theorem ws_16 {I A : Nat → Nat → Int32} {J : Nat → Nat → Int64} {i x : Int32} : am_wr (am_wd I A J) 16 (am_seI (am_rd (am_wd I A J) 16) i x) = am_wd I (am_u A 16 (upd (A 16) i.toNatClampNeg x)) J := am_wd_wr (Nat.le_of_ble_eq_true rfl) rfl
theorem ww_16 {I A : Nat → Nat → Int32} {J : Nat → Nat → Int64} {g : Nat → Int32} : am_wr (am_wd I A J) 16 (.inl (0, 8, .inl g)) = am_wd I (am_u A 16 g) J := am_wd_wr (Nat.le_of_ble_eq_true rfl) rfl
theorem wl_16 {I A : Nat → Nat → Int32} {J : Nat → Nat → Int64} : am_isL (am_rd (am_wd I A J) 16) = true := rfl
theorem wn_16 {I A : Nat → Nat → Int32} {J : Nat → Nat → Int64} : am_len (am_rd (am_wd I A J) 16) = 8 := rfl
theorem wr_17 {I A : Nat → Nat → Int32} {J : Nat → Nat → Int64} : am_rd (am_wd I A J) 17 = .inl (0, 5, .inl (A 17)) := rfl
theorem wi_17 {I A : Nat → Nat → Int32} {J : Nat → Nat → Int64} {i : Int32} : am_isI 0 (am_rd (am_wd I A J) 17) i = am_in i 5 := rfl
theorem wg_17 {I A : Nat → Nat → Int32} {J : Nat → Nat → Int64} {i : Int32} : am_geI (am_rd (am_wd I A J) 17) i = A 17 i.toNatClampNeg := rfl
theorem ws_17 {I A : Nat → Nat → Int32} {J : Nat → Nat → Int64} {i x : Int32} : am_wr (am_wd I A J) 17 (am_seI (am_rd (am_wd I A J) 17) i x) = am_wd I (am_u A 17 (upd (A 17) i.toNatClampNeg x)) J := am_wd_wr (Nat.le_of_ble_eq_true rfl) rfl
theorem ww_17 {I A : Nat → Nat → Int32} {J : Nat → Nat → Int64} {g : Nat → Int32} : am_wr (am_wd I A J) 17 (.inl (0, 5, .inl g)) = am_wd I (am_u A 17 g) J := am_wd_wr (Nat.le_of_ble_eq_true rfl) rfl
theorem wl_17 {I A : Nat → Nat → Int32} {J : Nat → Nat → Int64} : am_isL (am_rd (am_wd I A J) 17) = true := rfl
theorem wn_17 {I A : Nat → Nat → Int32} {J : Nat → Nat → Int64} : am_len (am_rd (am_wd I A J) 17) = 5 := rfl
theorem wr_18 {I A : Nat → Nat → Int32} {J : Nat → Nat → Int64} : am_rd (am_wd I A J) 18 = .inl (0, 5, .inl (A 18)) := rfl
theorem wi_18 {I A : Nat → Nat → Int32} {J : Nat → Nat → Int64} {i : Int32} : am_isI 0 (am_rd (am_wd I A J) 18) i = am_in i 5 := rfl
theorem wg_18 {I A : Nat → Nat → Int32} {J : Nat → Nat → Int64} {i : Int32} : am_geI (am_rd (am_wd I A J) 18) i = A 18 i.toNatClampNeg := rfl
theorem ws_18 {I A : Nat → Nat → Int32} {J : Nat → Nat → Int64} {i x : Int32} : am_wr (am_wd I A J) 18 (am_seI (am_rd (am_wd I A J) 18) i x) = am_wd I (am_u A 18 (upd (A 18) i.toNatClampNeg x)) J := am_wd_wr (Nat.le_of_ble_eq_true rfl) rfl
theorem ww_18 {I A : Nat → Nat → Int32} {J : Nat → Nat → Int64} {g : Nat → Int32} : am_wr (am_wd I A J) 18 (.inl (0, 5, .inl g)) = am_wd I (am_u A 18 g) J := am_wd_wr (Nat.le_of_ble_eq_true rfl) rfl
theorem wl_18 {I A : Nat → Nat → Int32} {J : Nat → Nat → Int64} : am_isL (am_rd (am_wd I A J) 18) = true := rfl
theorem wn_18 {I A : Nat → Nat → Int32} {J : Nat → Nat → Int64} : am_len (am_rd (am_wd I A J) 18) = 5 := rfl
theorem wr_19 {I A : Nat → Nat → Int32} {J : Nat → Nat → Int64} : am_rd (am_wd I A J) 19 = .inl (4, 4, .inr (.inr (.inr (.inr (fun j => if j < 4 then some (20 + 4 * j) else none))))) := rfl
theorem wi_19 {I A : Nat → Nat → Int32} {J : Nat → Nat → Int64} {i : Int32} : am_isA (am_rd (am_wd I A J) 19) i = am_in i 4 := rfl
theorem wg_19 {I A : Nat → Nat → Int32} {J : Nat → Nat → Int64} {i : Int32} : am_geA (am_rd (am_wd I A J) 19) i = va_rf ((fun j => if j < 4 then some (20 + 4 * j) else none) i.toNatClampNeg) := rfl
theorem wl_19 {I A : Nat → Nat → Int32} {J : Nat → Nat → Int64} : am_isL (am_rd (am_wd I A J) 19) = true := rfl
theorem wn_19 {I A : Nat → Nat → Int32} {J : Nat → Nat → Int64} : am_len (am_rd (am_wd I A J) 19) = 4 := rfl
theorem wr_20 {I A : Nat → Nat → Int32} {J : Nat → Nat → Int64} : am_rd (am_wd I A J) 20 = .inr (6, [.ref 21, .ref 22, .int (I 20 2), .ref 23, .int (I 20 4)]) := rfl
theorem wo_20 {I A : Nat → Nat → Int32} {J : Nat → Nat → Int64} : am_isO 6 (am_rd (am_wd I A J) 20) = true := rfl
theorem wf_20_0 {I A : Nat → Nat → Int32} {J : Nat → Nat → Int64} : am_isF 6 0 (am_rd (am_wd I A J) 20) = true := rfl
theorem wv_20_0 {I A : Nat → Nat → Int32} {J : Nat → Nat → Int64} : am_fld 0 (am_rd (am_wd I A J) 20) = .ref 21 := rfl
theorem wf_20_1 {I A : Nat → Nat → Int32} {J : Nat → Nat → Int64} : am_isF 6 1 (am_rd (am_wd I A J) 20) = true := rfl
theorem wv_20_1 {I A : Nat → Nat → Int32} {J : Nat → Nat → Int64} : am_fld 1 (am_rd (am_wd I A J) 20) = .ref 22 := rfl
theorem wf_20_2 {I A : Nat → Nat → Int32} {J : Nat → Nat → Int64} : am_isF 6 2 (am_rd (am_wd I A J) 20) = true := rfl
theorem wv_20_2 {I A : Nat → Nat → Int32} {J : Nat → Nat → Int64} : am_fld 2 (am_rd (am_wd I A J) 20) = .int (I 20 2) := rfl
theorem wp_20_2 {I A : Nat → Nat → Int32} {J : Nat → Nat → Int64} {x : Int32} : am_wr (am_wd I A J) 20 (am_put 2 (am_rd (am_wd I A J) 20) (.int x)) = am_wd (am_u2 I 20 2 x) A J := am_wd_wr (Nat.le_of_ble_eq_true rfl) rfl
theorem wf_20_3 {I A : Nat → Nat → Int32} {J : Nat → Nat → Int64} : am_isF 6 3 (am_rd (am_wd I A J) 20) = true := rfl
theorem wv_20_3 {I A : Nat → Nat → Int32} {J : Nat → Nat → Int64} : am_fld 3 (am_rd (am_wd I A J) 20) = .ref 23 := rfl
theorem wf_20_4 {I A : Nat → Nat → Int32} {J : Nat → Nat → Int64} : am_isF 6 4 (am_rd (am_wd I A J) 20) = true := rfl
theorem wv_20_4 {I A : Nat → Nat → Int32} {J : Nat → Nat → Int64} : am_fld 4 (am_rd (am_wd I A J) 20) = .int (I 20 4) := rfl
theorem wp_20_4 {I A : Nat → Nat → Int32} {J : Nat → Nat → Int64} {x : Int32} : am_wr (am_wd I A J) 20 (am_put 4 (am_rd (am_wd I A J) 20) (.int x)) = am_wd (am_u2 I 20 4 x) A J := am_wd_wr (Nat.le_of_ble_eq_true rfl) rfl
theorem wr_21 {I A : Nat → Nat → Int32} {J : Nat → Nat → Int64} : am_rd (am_wd I A J) 21 = .inl (0, 8, .inl (A 21)) := rfl
theorem wi_21 {I A : Nat → Nat → Int32} {J : Nat → Nat → Int64} {i : Int32} : am_isI 0 (am_rd (am_wd I A J) 21) i = am_in i 8 := rfl
theorem wg_21 {I A : Nat → Nat → Int32} {J : Nat → Nat → Int64} {i : Int32} : am_geI (am_rd (am_wd I A J) 21) i = A 21 i.toNatClampNeg := rfl
theorem ws_21 {I A : Nat → Nat → Int32} {J : Nat → Nat → Int64} {i x : Int32} : am_wr (am_wd I A J) 21 (am_seI (am_rd (am_wd I A J) 21) i x) = am_wd I (am_u A 21 (upd (A 21) i.toNatClampNeg x)) J := am_wd_wr (Nat.le_of_ble_eq_true rfl) rfl
theorem ww_21 {I A : Nat → Nat → Int32} {J : Nat → Nat → Int64} {g : Nat → Int32} : am_wr (am_wd I A J) 21 (.inl (0, 8, .inl g)) = am_wd I (am_u A 21 g) J := am_wd_wr (Nat.le_of_ble_eq_true rfl) rfl
theorem wl_21 {I A : Nat → Nat → Int32} {J : Nat → Nat → Int64} : am_isL (am_rd (am_wd I A J) 21) = true := rfl
theorem wn_21 {I A : Nat → Nat → Int32} {J : Nat → Nat → Int64} : am_len (am_rd (am_wd I A J) 21) = 8 := rfl
theorem wr_22 {I A : Nat → Nat → Int32} {J : Nat → Nat → Int64} : am_rd (am_wd I A J) 22 = .inl (0, 5, .inl (A 22)) := rfl
theorem wi_22 {I A : Nat → Nat → Int32} {J : Nat → Nat → Int64} {i : Int32} : am_isI 0 (am_rd (am_wd I A J) 22) i = am_in i 5 := rfl
theorem wg_22 {I A : Nat → Nat → Int32} {J : Nat → Nat → Int64} {i : Int32} : am_geI (am_rd (am_wd I A J) 22) i = A 22 i.toNatClampNeg := rfl
theorem ws_22 {I A : Nat → Nat → Int32} {J : Nat → Nat → Int64} {i x : Int32} : am_wr (am_wd I A J) 22 (am_seI (am_rd (am_wd I A J) 22) i x) = am_wd I (am_u A 22 (upd (A 22) i.toNatClampNeg x)) J := am_wd_wr (Nat.le_of_ble_eq_true rfl) rfl
theorem ww_22 {I A : Nat → Nat → Int32} {J : Nat → Nat → Int64} {g : Nat → Int32} : am_wr (am_wd I A J) 22 (.inl (0, 5, .inl g)) = am_wd I (am_u A 22 g) J := am_wd_wr (Nat.le_of_ble_eq_true rfl) rfl
theorem wl_22 {I A : Nat → Nat → Int32} {J : Nat → Nat → Int64} : am_isL (am_rd (am_wd I A J) 22) = true := rfl
theorem wn_22 {I A : Nat → Nat → Int32} {J : Nat → Nat → Int64} : am_len (am_rd (am_wd I A J) 22) = 5 := rfl
theorem wr_23 {I A : Nat → Nat → Int32} {J : Nat → Nat → Int64} : am_rd (am_wd I A J) 23 = .inl (0, 5, .inl (A 23)) := rfl
theorem wi_23 {I A : Nat → Nat → Int32} {J : Nat → Nat → Int64} {i : Int32} : am_isI 0 (am_rd (am_wd I A J) 23) i = am_in i 5 := rfl
theorem wg_23 {I A : Nat → Nat → Int32} {J : Nat → Nat → Int64} {i : Int32} : am_geI (am_rd (am_wd I A J) 23) i = A 23 i.toNatClampNeg := rfl
theorem ws_23 {I A : Nat → Nat → Int32} {J : Nat → Nat → Int64} {i x : Int32} : am_wr (am_wd I A J) 23 (am_seI (am_rd (am_wd I A J) 23) i x) = am_wd I (am_u A 23 (upd (A 23) i.toNatClampNeg x)) J := am_wd_wr (Nat.le_of_ble_eq_true rfl) rfl
theorem ww_23 {I A : Nat → Nat → Int32} {J : Nat → Nat → Int64} {g : Nat → Int32} : am_wr (am_wd I A J) 23 (.inl (0, 5, .inl g)) = am_wd I (am_u A 23 g) J := am_wd_wr (Nat.le_of_ble_eq_true rfl) rfl
theorem wl_23 {I A : Nat → Nat → Int32} {J : Nat → Nat → Int64} : am_isL (am_rd (am_wd I A J) 23) = true := rfl
theorem wn_23 {I A : Nat → Nat → Int32} {J : Nat → Nat → Int64} : am_len (am_rd (am_wd I A J) 23) = 5 := rfl
theorem wr_24 {I A : Nat → Nat → Int32} {J : Nat → Nat → Int64} : am_rd (am_wd I A J) 24 = .inr (6, [.ref 25, .ref 26, .int (I 24 2), .ref 27, .int (I 24 4)]) := rfl
theorem wo_24 {I A : Nat → Nat → Int32} {J : Nat → Nat → Int64} : am_isO 6 (am_rd (am_wd I A J) 24) = true := rfl
theorem wf_24_0 {I A : Nat → Nat → Int32} {J : Nat → Nat → Int64} : am_isF 6 0 (am_rd (am_wd I A J) 24) = true := rfl
theorem wv_24_0 {I A : Nat → Nat → Int32} {J : Nat → Nat → Int64} : am_fld 0 (am_rd (am_wd I A J) 24) = .ref 25 := rfl
theorem wf_24_1 {I A : Nat → Nat → Int32} {J : Nat → Nat → Int64} : am_isF 6 1 (am_rd (am_wd I A J) 24) = true := rfl
theorem wv_24_1 {I A : Nat → Nat → Int32} {J : Nat → Nat → Int64} : am_fld 1 (am_rd (am_wd I A J) 24) = .ref 26 := rfl
theorem wf_24_2 {I A : Nat → Nat → Int32} {J : Nat → Nat → Int64} : am_isF 6 2 (am_rd (am_wd I A J) 24) = true := rfl
theorem wv_24_2 {I A : Nat → Nat → Int32} {J : Nat → Nat → Int64} : am_fld 2 (am_rd (am_wd I A J) 24) = .int (I 24 2) := rfl
theorem wp_24_2 {I A : Nat → Nat → Int32} {J : Nat → Nat → Int64} {x : Int32} : am_wr (am_wd I A J) 24 (am_put 2 (am_rd (am_wd I A J) 24) (.int x)) = am_wd (am_u2 I 24 2 x) A J := am_wd_wr (Nat.le_of_ble_eq_true rfl) rfl
theorem wf_24_3 {I A : Nat → Nat → Int32} {J : Nat → Nat → Int64} : am_isF 6 3 (am_rd (am_wd I A J) 24) = true := rfl
theorem wv_24_3 {I A : Nat → Nat → Int32} {J : Nat → Nat → Int64} : am_fld 3 (am_rd (am_wd I A J) 24) = .ref 27 := rfl
theorem wf_24_4 {I A : Nat → Nat → Int32} {J : Nat → Nat → Int64} : am_isF 6 4 (am_rd (am_wd I A J) 24) = true := rfl
theorem wv_24_4 {I A : Nat → Nat → Int32} {J : Nat → Nat → Int64} : am_fld 4 (am_rd (am_wd I A J) 24) = .int (I 24 4) := rfl
theorem wp_24_4 {I A : Nat → Nat → Int32} {J : Nat → Nat → Int64} {x : Int32} : am_wr (am_wd I A J) 24 (am_put 4 (am_rd (am_wd I A J) 24) (.int x)) = am_wd (am_u2 I 24 4 x) A J := am_wd_wr (Nat.le_of_ble_eq_true rfl) rfl
theorem wr_25 {I A : Nat → Nat → Int32} {J : Nat → Nat → Int64} : am_rd (am_wd I A J) 25 = .inl (0, 8, .inl (A 25)) := rfl
theorem wi_25 {I A : Nat → Nat → Int32} {J : Nat → Nat → Int64} {i : Int32} : am_isI 0 (am_rd (am_wd I A J) 25) i = am_in i 8 := rfl
theorem wg_25 {I A : Nat → Nat → Int32} {J : Nat → Nat → Int64} {i : Int32} : am_geI (am_rd (am_wd I A J) 25) i = A 25 i.toNatClampNeg := rfl
theorem ws_25 {I A : Nat → Nat → Int32} {J : Nat → Nat → Int64} {i x : Int32} : am_wr (am_wd I A J) 25 (am_seI (am_rd (am_wd I A J) 25) i x) = am_wd I (am_u A 25 (upd (A 25) i.toNatClampNeg x)) J := am_wd_wr (Nat.le_of_ble_eq_true rfl) rfl
theorem ww_25 {I A : Nat → Nat → Int32} {J : Nat → Nat → Int64} {g : Nat → Int32} : am_wr (am_wd I A J) 25 (.inl (0, 8, .inl g)) = am_wd I (am_u A 25 g) J := am_wd_wr (Nat.le_of_ble_eq_true rfl) rfl
theorem wl_25 {I A : Nat → Nat → Int32} {J : Nat → Nat → Int64} : am_isL (am_rd (am_wd I A J) 25) = true := rfl
theorem wn_25 {I A : Nat → Nat → Int32} {J : Nat → Nat → Int64} : am_len (am_rd (am_wd I A J) 25) = 8 := rfl
theorem wr_26 {I A : Nat → Nat → Int32} {J : Nat → Nat → Int64} : am_rd (am_wd I A J) 26 = .inl (0, 5, .inl (A 26)) := rfl
theorem wi_26 {I A : Nat → Nat → Int32} {J : Nat → Nat → Int64} {i : Int32} : am_isI 0 (am_rd (am_wd I A J) 26) i = am_in i 5 := rfl
theorem wg_26 {I A : Nat → Nat → Int32} {J : Nat → Nat → Int64} {i : Int32} : am_geI (am_rd (am_wd I A J) 26) i = A 26 i.toNatClampNeg := rfl
theorem ws_26 {I A : Nat → Nat → Int32} {J : Nat → Nat → Int64} {i x : Int32} : am_wr (am_wd I A J) 26 (am_seI (am_rd (am_wd I A J) 26) i x) = am_wd I (am_u A 26 (upd (A 26) i.toNatClampNeg x)) J := am_wd_wr (Nat.le_of_ble_eq_true rfl) rfl
theorem ww_26 {I A : Nat → Nat → Int32} {J : Nat → Nat → Int64} {g : Nat → Int32} : am_wr (am_wd I A J) 26 (.inl (0, 5, .inl g)) = am_wd I (am_u A 26 g) J := am_wd_wr (Nat.le_of_ble_eq_true rfl) rfl
theorem wl_26 {I A : Nat → Nat → Int32} {J : Nat → Nat → Int64} : am_isL (am_rd (am_wd I A J) 26) = true := rfl
theorem wn_26 {I A : Nat → Nat → Int32} {J : Nat → Nat → Int64} : am_len (am_rd (am_wd I A J) 26) = 5 := rfl
theorem wr_27 {I A : Nat → Nat → Int32} {J : Nat → Nat → Int64} : am_rd (am_wd I A J) 27 = .inl (0, 5, .inl (A 27)) := rfl
theorem wi_27 {I A : Nat → Nat → Int32} {J : Nat → Nat → Int64} {i : Int32} : am_isI 0 (am_rd (am_wd I A J) 27) i = am_in i 5 := rfl
theorem wg_27 {I A : Nat → Nat → Int32} {J : Nat → Nat → Int64} {i : Int32} : am_geI (am_rd (am_wd I A J) 27) i = A 27 i.toNatClampNeg := rfl
theorem ws_27 {I A : Nat → Nat → Int32} {J : Nat → Nat → Int64} {i x : Int32} : am_wr (am_wd I A J) 27 (am_seI (am_rd (am_wd I A J) 27) i x) = am_wd I (am_u A 27 (upd (A 27) i.toNatClampNeg x)) J := am_wd_wr (Nat.le_of_ble_eq_true rfl) rfl
theorem ww_27 {I A : Nat → Nat → Int32} {J : Nat → Nat → Int64} {g : Nat → Int32} : am_wr (am_wd I A J) 27 (.inl (0, 5, .inl g)) = am_wd I (am_u A 27 g) J := am_wd_wr (Nat.le_of_ble_eq_true rfl) rfl
theorem wl_27 {I A : Nat → Nat → Int32} {J : Nat → Nat → Int64} : am_isL (am_rd (am_wd I A J) 27) = true := rfl
theorem wn_27 {I A : Nat → Nat → Int32} {J : Nat → Nat → Int64} : am_len (am_rd (am_wd I A J) 27) = 5 := rfl
theorem wr_28 {I A : Nat → Nat → Int32} {J : Nat → Nat → Int64} : am_rd (am_wd I A J) 28 = .inr (6, [.ref 29, .ref 30, .int (I 28 2), .ref 31, .int (I 28 4)]) := rfl
theorem wo_28 {I A : Nat → Nat → Int32} {J : Nat → Nat → Int64} : am_isO 6 (am_rd (am_wd I A J) 28) = true := rfl
theorem wf_28_0 {I A : Nat → Nat → Int32} {J : Nat → Nat → Int64} : am_isF 6 0 (am_rd (am_wd I A J) 28) = true := rfl
theorem wv_28_0 {I A : Nat → Nat → Int32} {J : Nat → Nat → Int64} : am_fld 0 (am_rd (am_wd I A J) 28) = .ref 29 := rfl
theorem wf_28_1 {I A : Nat → Nat → Int32} {J : Nat → Nat → Int64} : am_isF 6 1 (am_rd (am_wd I A J) 28) = true := rfl
theorem wv_28_1 {I A : Nat → Nat → Int32} {J : Nat → Nat → Int64} : am_fld 1 (am_rd (am_wd I A J) 28) = .ref 30 := rfl
theorem wf_28_2 {I A : Nat → Nat → Int32} {J : Nat → Nat → Int64} : am_isF 6 2 (am_rd (am_wd I A J) 28) = true := rfl
theorem wv_28_2 {I A : Nat → Nat → Int32} {J : Nat → Nat → Int64} : am_fld 2 (am_rd (am_wd I A J) 28) = .int (I 28 2) := rfl
theorem wp_28_2 {I A : Nat → Nat → Int32} {J : Nat → Nat → Int64} {x : Int32} : am_wr (am_wd I A J) 28 (am_put 2 (am_rd (am_wd I A J) 28) (.int x)) = am_wd (am_u2 I 28 2 x) A J := am_wd_wr (Nat.le_of_ble_eq_true rfl) rfl
theorem wf_28_3 {I A : Nat → Nat → Int32} {J : Nat → Nat → Int64} : am_isF 6 3 (am_rd (am_wd I A J) 28) = true := rfl
theorem wv_28_3 {I A : Nat → Nat → Int32} {J : Nat → Nat → Int64} : am_fld 3 (am_rd (am_wd I A J) 28) = .ref 31 := rfl
theorem wf_28_4 {I A : Nat → Nat → Int32} {J : Nat → Nat → Int64} : am_isF 6 4 (am_rd (am_wd I A J) 28) = true := rfl
theorem wv_28_4 {I A : Nat → Nat → Int32} {J : Nat → Nat → Int64} : am_fld 4 (am_rd (am_wd I A J) 28) = .int (I 28 4) := rfl
theorem wp_28_4 {I A : Nat → Nat → Int32} {J : Nat → Nat → Int64} {x : Int32} : am_wr (am_wd I A J) 28 (am_put 4 (am_rd (am_wd I A J) 28) (.int x)) = am_wd (am_u2 I 28 4 x) A J := am_wd_wr (Nat.le_of_ble_eq_true rfl) rfl
theorem wr_29 {I A : Nat → Nat → Int32} {J : Nat → Nat → Int64} : am_rd (am_wd I A J) 29 = .inl (0, 8, .inl (A 29)) := rfl
theorem wi_29 {I A : Nat → Nat → Int32} {J : Nat → Nat → Int64} {i : Int32} : am_isI 0 (am_rd (am_wd I A J) 29) i = am_in i 8 := rfl
theorem wg_29 {I A : Nat → Nat → Int32} {J : Nat → Nat → Int64} {i : Int32} : am_geI (am_rd (am_wd I A J) 29) i = A 29 i.toNatClampNeg := rfl
theorem ws_29 {I A : Nat → Nat → Int32} {J : Nat → Nat → Int64} {i x : Int32} : am_wr (am_wd I A J) 29 (am_seI (am_rd (am_wd I A J) 29) i x) = am_wd I (am_u A 29 (upd (A 29) i.toNatClampNeg x)) J := am_wd_wr (Nat.le_of_ble_eq_true rfl) rfl
theorem ww_29 {I A : Nat → Nat → Int32} {J : Nat → Nat → Int64} {g : Nat → Int32} : am_wr (am_wd I A J) 29 (.inl (0, 8, .inl g)) = am_wd I (am_u A 29 g) J := am_wd_wr (Nat.le_of_ble_eq_true rfl) rfl
theorem wl_29 {I A : Nat → Nat → Int32} {J : Nat → Nat → Int64} : am_isL (am_rd (am_wd I A J) 29) = true := rfl
theorem wn_29 {I A : Nat → Nat → Int32} {J : Nat → Nat → Int64} : am_len (am_rd (am_wd I A J) 29) = 8 := rfl
theorem wr_30 {I A : Nat → Nat → Int32} {J : Nat → Nat → Int64} : am_rd (am_wd I A J) 30 = .inl (0, 5, .inl (A 30)) := rfl
theorem wi_30 {I A : Nat → Nat → Int32} {J : Nat → Nat → Int64} {i : Int32} : am_isI 0 (am_rd (am_wd I A J) 30) i = am_in i 5 := rfl
theorem wg_30 {I A : Nat → Nat → Int32} {J : Nat → Nat → Int64} {i : Int32} : am_geI (am_rd (am_wd I A J) 30) i = A 30 i.toNatClampNeg := rfl
theorem ws_30 {I A : Nat → Nat → Int32} {J : Nat → Nat → Int64} {i x : Int32} : am_wr (am_wd I A J) 30 (am_seI (am_rd (am_wd I A J) 30) i x) = am_wd I (am_u A 30 (upd (A 30) i.toNatClampNeg x)) J := am_wd_wr (Nat.le_of_ble_eq_true rfl) rfl
theorem ww_30 {I A : Nat → Nat → Int32} {J : Nat → Nat → Int64} {g : Nat → Int32} : am_wr (am_wd I A J) 30 (.inl (0, 5, .inl g)) = am_wd I (am_u A 30 g) J := am_wd_wr (Nat.le_of_ble_eq_true rfl) rfl
theorem wl_30 {I A : Nat → Nat → Int32} {J : Nat → Nat → Int64} : am_isL (am_rd (am_wd I A J) 30) = true := rfl
theorem wn_30 {I A : Nat → Nat → Int32} {J : Nat → Nat → Int64} : am_len (am_rd (am_wd I A J) 30) = 5 := rfl
theorem wr_31 {I A : Nat → Nat → Int32} {J : Nat → Nat → Int64} : am_rd (am_wd I A J) 31 = .inl (0, 5, .inl (A 31)) := rfl
theorem wi_31 {I A : Nat → Nat → Int32} {J : Nat → Nat → Int64} {i : Int32} : am_isI 0 (am_rd (am_wd I A J) 31) i = am_in i 5 := rfl
theorem wg_31 {I A : Nat → Nat → Int32} {J : Nat → Nat → Int64} {i : Int32} : am_geI (am_rd (am_wd I A J) 31) i = A 31 i.toNatClampNeg := rfl
theorem ws_31 {I A : Nat → Nat → Int32} {J : Nat → Nat → Int64} {i x : Int32} : am_wr (am_wd I A J) 31 (am_seI (am_rd (am_wd I A J) 31) i x) = am_wd I (am_u A 31 (upd (A 31) i.toNatClampNeg x)) J := am_wd_wr (Nat.le_of_ble_eq_true rfl) rfl
theorem ww_31 {I A : Nat → Nat → Int32} {J : Nat → Nat → Int64} {g : Nat → Int32} : am_wr (am_wd I A J) 31 (.inl (0, 5, .inl g)) = am_wd I (am_u A 31 g) J := am_wd_wr (Nat.le_of_ble_eq_true rfl) rfl
theorem wl_31 {I A : Nat → Nat → Int32} {J : Nat → Nat → Int64} : am_isL (am_rd (am_wd I A J) 31) = true := rfl
theorem wn_31 {I A : Nat → Nat → Int32} {J : Nat → Nat → Int64} : am_len (am_rd (am_wd I A J) 31) = 5 := rfl
theorem wr_32 {I A : Nat → Nat → Int32} {J : Nat → Nat → Int64} : am_rd (am_wd I A J) 32 = .inr (6, [.ref 33, .ref 34, .int (I 32 2), .ref 35, .int (I 32 4)]) := rfl
theorem wo_32 {I A : Nat → Nat → Int32} {J : Nat → Nat → Int64} : am_isO 6 (am_rd (am_wd I A J) 32) = true := rfl
theorem wf_32_0 {I A : Nat → Nat → Int32} {J : Nat → Nat → Int64} : am_isF 6 0 (am_rd (am_wd I A J) 32) = true := rfl
theorem wv_32_0 {I A : Nat → Nat → Int32} {J : Nat → Nat → Int64} : am_fld 0 (am_rd (am_wd I A J) 32) = .ref 33 := rfl
theorem wf_32_1 {I A : Nat → Nat → Int32} {J : Nat → Nat → Int64} : am_isF 6 1 (am_rd (am_wd I A J) 32) = true := rfl
theorem wv_32_1 {I A : Nat → Nat → Int32} {J : Nat → Nat → Int64} : am_fld 1 (am_rd (am_wd I A J) 32) = .ref 34 := rfl
theorem wf_32_2 {I A : Nat → Nat → Int32} {J : Nat → Nat → Int64} : am_isF 6 2 (am_rd (am_wd I A J) 32) = true := rfl
theorem wv_32_2 {I A : Nat → Nat → Int32} {J : Nat → Nat → Int64} : am_fld 2 (am_rd (am_wd I A J) 32) = .int (I 32 2) := rfl
theorem wp_32_2 {I A : Nat → Nat → Int32} {J : Nat → Nat → Int64} {x : Int32} : am_wr (am_wd I A J) 32 (am_put 2 (am_rd (am_wd I A J) 32) (.int x)) = am_wd (am_u2 I 32 2 x) A J := am_wd_wr (Nat.le_of_ble_eq_true rfl) rfl
theorem wf_32_3 {I A : Nat → Nat → Int32} {J : Nat → Nat → Int64} : am_isF 6 3 (am_rd (am_wd I A J) 32) = true := rfl
theorem wv_32_3 {I A : Nat → Nat → Int32} {J : Nat → Nat → Int64} : am_fld 3 (am_rd (am_wd I A J) 32) = .ref 35 := rfl
theorem wf_32_4 {I A : Nat → Nat → Int32} {J : Nat → Nat → Int64} : am_isF 6 4 (am_rd (am_wd I A J) 32) = true := rfl
theorem wv_32_4 {I A : Nat → Nat → Int32} {J : Nat → Nat → Int64} : am_fld 4 (am_rd (am_wd I A J) 32) = .int (I 32 4) := rfl
theorem wp_32_4 {I A : Nat → Nat → Int32} {J : Nat → Nat → Int64} {x : Int32} : am_wr (am_wd I A J) 32 (am_put 4 (am_rd (am_wd I A J) 32) (.int x)) = am_wd (am_u2 I 32 4 x) A J := am_wd_wr (Nat.le_of_ble_eq_true rfl) rfl
theorem wr_33 {I A : Nat → Nat → Int32} {J : Nat → Nat → Int64} : am_rd (am_wd I A J) 33 = .inl (0, 8, .inl (A 33)) := rfl
theorem wi_33 {I A : Nat → Nat → Int32} {J : Nat → Nat → Int64} {i : Int32} : am_isI 0 (am_rd (am_wd I A J) 33) i = am_in i 8 := rfl
theorem wg_33 {I A : Nat → Nat → Int32} {J : Nat → Nat → Int64} {i : Int32} : am_geI (am_rd (am_wd I A J) 33) i = A 33 i.toNatClampNeg := rfl
theorem ws_33 {I A : Nat → Nat → Int32} {J : Nat → Nat → Int64} {i x : Int32} : am_wr (am_wd I A J) 33 (am_seI (am_rd (am_wd I A J) 33) i x) = am_wd I (am_u A 33 (upd (A 33) i.toNatClampNeg x)) J := am_wd_wr (Nat.le_of_ble_eq_true rfl) rfl
theorem ww_33 {I A : Nat → Nat → Int32} {J : Nat → Nat → Int64} {g : Nat → Int32} : am_wr (am_wd I A J) 33 (.inl (0, 8, .inl g)) = am_wd I (am_u A 33 g) J := am_wd_wr (Nat.le_of_ble_eq_true rfl) rfl
theorem wl_33 {I A : Nat → Nat → Int32} {J : Nat → Nat → Int64} : am_isL (am_rd (am_wd I A J) 33) = true := rfl
theorem wn_33 {I A : Nat → Nat → Int32} {J : Nat → Nat → Int64} : am_len (am_rd (am_wd I A J) 33) = 8 := rfl
theorem wr_34 {I A : Nat → Nat → Int32} {J : Nat → Nat → Int64} : am_rd (am_wd I A J) 34 = .inl (0, 5, .inl (A 34)) := rfl
theorem wi_34 {I A : Nat → Nat → Int32} {J : Nat → Nat → Int64} {i : Int32} : am_isI 0 (am_rd (am_wd I A J) 34) i = am_in i 5 := rfl
theorem wg_34 {I A : Nat → Nat → Int32} {J : Nat → Nat → Int64} {i : Int32} : am_geI (am_rd (am_wd I A J) 34) i = A 34 i.toNatClampNeg := rfl
theorem ws_34 {I A : Nat → Nat → Int32} {J : Nat → Nat → Int64} {i x : Int32} : am_wr (am_wd I A J) 34 (am_seI (am_rd (am_wd I A J) 34) i x) = am_wd I (am_u A 34 (upd (A 34) i.toNatClampNeg x)) J := am_wd_wr (Nat.le_of_ble_eq_true rfl) rfl
theorem ww_34 {I A : Nat → Nat → Int32} {J : Nat → Nat → Int64} {g : Nat → Int32} : am_wr (am_wd I A J) 34 (.inl (0, 5, .inl g)) = am_wd I (am_u A 34 g) J := am_wd_wr (Nat.le_of_ble_eq_true rfl) rfl
theorem wl_34 {I A : Nat → Nat → Int32} {J : Nat → Nat → Int64} : am_isL (am_rd (am_wd I A J) 34) = true := rfl
theorem wn_34 {I A : Nat → Nat → Int32} {J : Nat → Nat → Int64} : am_len (am_rd (am_wd I A J) 34) = 5 := rfl
theorem wr_35 {I A : Nat → Nat → Int32} {J : Nat → Nat → Int64} : am_rd (am_wd I A J) 35 = .inl (0, 5, .inl (A 35)) := rfl
theorem wi_35 {I A : Nat → Nat → Int32} {J : Nat → Nat → Int64} {i : Int32} : am_isI 0 (am_rd (am_wd I A J) 35) i = am_in i 5 := rfl
theorem wg_35 {I A : Nat → Nat → Int32} {J : Nat → Nat → Int64} {i : Int32} : am_geI (am_rd (am_wd I A J) 35) i = A 35 i.toNatClampNeg := rfl
theorem ws_35 {I A : Nat → Nat → Int32} {J : Nat → Nat → Int64} {i x : Int32} : am_wr (am_wd I A J) 35 (am_seI (am_rd (am_wd I A J) 35) i x) = am_wd I (am_u A 35 (upd (A 35) i.toNatClampNeg x)) J := am_wd_wr (Nat.le_of_ble_eq_true rfl) rfl
theorem ww_35 {I A : Nat → Nat → Int32} {J : Nat → Nat → Int64} {g : Nat → Int32} : am_wr (am_wd I A J) 35 (.inl (0, 5, .inl g)) = am_wd I (am_u A 35 g) J := am_wd_wr (Nat.le_of_ble_eq_true rfl) rfl
theorem wl_35 {I A : Nat → Nat → Int32} {J : Nat → Nat → Int64} : am_isL (am_rd (am_wd I A J) 35) = true := rfl
theorem wn_35 {I A : Nat → Nat → Int32} {J : Nat → Nat → Int64} : am_len (am_rd (am_wd I A J) 35) = 5 := rfl
theorem wr_36 {I A : Nat → Nat → Int32} {J : Nat → Nat → Int64} : am_rd (am_wd I A J) 36 = .inr (5, [.ref 37, .ref 38, .int (I 36 2), .ref 39, .ref 40, .int (I 36 5)]) := rfl
theorem wo_36 {I A : Nat → Nat → Int32} {J : Nat → Nat → Int64} : am_isO 5 (am_rd (am_wd I A J) 36) = true := rfl
theorem wf_36_0 {I A : Nat → Nat → Int32} {J : Nat → Nat → Int64} : am_isF 5 0 (am_rd (am_wd I A J) 36) = true := rfl
theorem wv_36_0 {I A : Nat → Nat → Int32} {J : Nat → Nat → Int64} : am_fld 0 (am_rd (am_wd I A J) 36) = .ref 37 := rfl
theorem wf_36_1 {I A : Nat → Nat → Int32} {J : Nat → Nat → Int64} : am_isF 5 1 (am_rd (am_wd I A J) 36) = true := rfl
theorem wv_36_1 {I A : Nat → Nat → Int32} {J : Nat → Nat → Int64} : am_fld 1 (am_rd (am_wd I A J) 36) = .ref 38 := rfl
theorem wf_36_2 {I A : Nat → Nat → Int32} {J : Nat → Nat → Int64} : am_isF 5 2 (am_rd (am_wd I A J) 36) = true := rfl
theorem wv_36_2 {I A : Nat → Nat → Int32} {J : Nat → Nat → Int64} : am_fld 2 (am_rd (am_wd I A J) 36) = .int (I 36 2) := rfl
theorem wp_36_2 {I A : Nat → Nat → Int32} {J : Nat → Nat → Int64} {x : Int32} : am_wr (am_wd I A J) 36 (am_put 2 (am_rd (am_wd I A J) 36) (.int x)) = am_wd (am_u2 I 36 2 x) A J := am_wd_wr (Nat.le_of_ble_eq_true rfl) rfl
theorem wf_36_3 {I A : Nat → Nat → Int32} {J : Nat → Nat → Int64} : am_isF 5 3 (am_rd (am_wd I A J) 36) = true := rfl
theorem wv_36_3 {I A : Nat → Nat → Int32} {J : Nat → Nat → Int64} : am_fld 3 (am_rd (am_wd I A J) 36) = .ref 39 := rfl
theorem wf_36_4 {I A : Nat → Nat → Int32} {J : Nat → Nat → Int64} : am_isF 5 4 (am_rd (am_wd I A J) 36) = true := rfl
theorem wv_36_4 {I A : Nat → Nat → Int32} {J : Nat → Nat → Int64} : am_fld 4 (am_rd (am_wd I A J) 36) = .ref 40 := rfl
theorem wf_36_5 {I A : Nat → Nat → Int32} {J : Nat → Nat → Int64} : am_isF 5 5 (am_rd (am_wd I A J) 36) = true := rfl
theorem wv_36_5 {I A : Nat → Nat → Int32} {J : Nat → Nat → Int64} : am_fld 5 (am_rd (am_wd I A J) 36) = .int (I 36 5) := rfl
theorem wp_36_5 {I A : Nat → Nat → Int32} {J : Nat → Nat → Int64} {x : Int32} : am_wr (am_wd I A J) 36 (am_put 5 (am_rd (am_wd I A J) 36) (.int x)) = am_wd (am_u2 I 36 5 x) A J := am_wd_wr (Nat.le_of_ble_eq_true rfl) rfl
theorem wr_37 {I A : Nat → Nat → Int32} {J : Nat → Nat → Int64} : am_rd (am_wd I A J) 37 = .inl (0, 8, .inl (A 37)) := rfl
theorem wi_37 {I A : Nat → Nat → Int32} {J : Nat → Nat → Int64} {i : Int32} : am_isI 0 (am_rd (am_wd I A J) 37) i = am_in i 8 := rfl
theorem wg_37 {I A : Nat → Nat → Int32} {J : Nat → Nat → Int64} {i : Int32} : am_geI (am_rd (am_wd I A J) 37) i = A 37 i.toNatClampNeg := rfl
theorem ws_37 {I A : Nat → Nat → Int32} {J : Nat → Nat → Int64} {i x : Int32} : am_wr (am_wd I A J) 37 (am_seI (am_rd (am_wd I A J) 37) i x) = am_wd I (am_u A 37 (upd (A 37) i.toNatClampNeg x)) J := am_wd_wr (Nat.le_of_ble_eq_true rfl) rfl
theorem ww_37 {I A : Nat → Nat → Int32} {J : Nat → Nat → Int64} {g : Nat → Int32} : am_wr (am_wd I A J) 37 (.inl (0, 8, .inl g)) = am_wd I (am_u A 37 g) J := am_wd_wr (Nat.le_of_ble_eq_true rfl) rfl
theorem wl_37 {I A : Nat → Nat → Int32} {J : Nat → Nat → Int64} : am_isL (am_rd (am_wd I A J) 37) = true := rfl
theorem wn_37 {I A : Nat → Nat → Int32} {J : Nat → Nat → Int64} : am_len (am_rd (am_wd I A J) 37) = 8 := rfl
theorem wr_38 {I A : Nat → Nat → Int32} {J : Nat → Nat → Int64} : am_rd (am_wd I A J) 38 = .inl (0, 8, .inl (A 38)) := rfl
theorem wi_38 {I A : Nat → Nat → Int32} {J : Nat → Nat → Int64} {i : Int32} : am_isI 0 (am_rd (am_wd I A J) 38) i = am_in i 8 := rfl
theorem wg_38 {I A : Nat → Nat → Int32} {J : Nat → Nat → Int64} {i : Int32} : am_geI (am_rd (am_wd I A J) 38) i = A 38 i.toNatClampNeg := rfl
theorem ws_38 {I A : Nat → Nat → Int32} {J : Nat → Nat → Int64} {i x : Int32} : am_wr (am_wd I A J) 38 (am_seI (am_rd (am_wd I A J) 38) i x) = am_wd I (am_u A 38 (upd (A 38) i.toNatClampNeg x)) J := am_wd_wr (Nat.le_of_ble_eq_true rfl) rfl
theorem ww_38 {I A : Nat → Nat → Int32} {J : Nat → Nat → Int64} {g : Nat → Int32} : am_wr (am_wd I A J) 38 (.inl (0, 8, .inl g)) = am_wd I (am_u A 38 g) J := am_wd_wr (Nat.le_of_ble_eq_true rfl) rfl
theorem wl_38 {I A : Nat → Nat → Int32} {J : Nat → Nat → Int64} : am_isL (am_rd (am_wd I A J) 38) = true := rfl
theorem wn_38 {I A : Nat → Nat → Int32} {J : Nat → Nat → Int64} : am_len (am_rd (am_wd I A J) 38) = 8 := rfl
theorem wr_39 {I A : Nat → Nat → Int32} {J : Nat → Nat → Int64} : am_rd (am_wd I A J) 39 = .inl (0, 30, .inl (A 39)) := rfl
theorem wi_39 {I A : Nat → Nat → Int32} {J : Nat → Nat → Int64} {i : Int32} : am_isI 0 (am_rd (am_wd I A J) 39) i = am_in i 30 := rfl
theorem wg_39 {I A : Nat → Nat → Int32} {J : Nat → Nat → Int64} {i : Int32} : am_geI (am_rd (am_wd I A J) 39) i = A 39 i.toNatClampNeg := rfl
theorem ws_39 {I A : Nat → Nat → Int32} {J : Nat → Nat → Int64} {i x : Int32} : am_wr (am_wd I A J) 39 (am_seI (am_rd (am_wd I A J) 39) i x) = am_wd I (am_u A 39 (upd (A 39) i.toNatClampNeg x)) J := am_wd_wr (Nat.le_of_ble_eq_true rfl) rfl
theorem ww_39 {I A : Nat → Nat → Int32} {J : Nat → Nat → Int64} {g : Nat → Int32} : am_wr (am_wd I A J) 39 (.inl (0, 30, .inl g)) = am_wd I (am_u A 39 g) J := am_wd_wr (Nat.le_of_ble_eq_true rfl) rfl
theorem wl_39 {I A : Nat → Nat → Int32} {J : Nat → Nat → Int64} : am_isL (am_rd (am_wd I A J) 39) = true := rfl
theorem wn_39 {I A : Nat → Nat → Int32} {J : Nat → Nat → Int64} : am_len (am_rd (am_wd I A J) 39) = 30 := rfl
theorem wr_40 {I A : Nat → Nat → Int32} {J : Nat → Nat → Int64} : am_rd (am_wd I A J) 40 = .inl (0, 15, .inl (A 40)) := rfl
theorem wi_40 {I A : Nat → Nat → Int32} {J : Nat → Nat → Int64} {i : Int32} : am_isI 0 (am_rd (am_wd I A J) 40) i = am_in i 15 := rfl
theorem wg_40 {I A : Nat → Nat → Int32} {J : Nat → Nat → Int64} {i : Int32} : am_geI (am_rd (am_wd I A J) 40) i = A 40 i.toNatClampNeg := rfl
theorem ws_40 {I A : Nat → Nat → Int32} {J : Nat → Nat → Int64} {i x : Int32} : am_wr (am_wd I A J) 40 (am_seI (am_rd (am_wd I A J) 40) i x) = am_wd I (am_u A 40 (upd (A 40) i.toNatClampNeg x)) J := am_wd_wr (Nat.le_of_ble_eq_true rfl) rfl
theorem ww_40 {I A : Nat → Nat → Int32} {J : Nat → Nat → Int64} {g : Nat → Int32} : am_wr (am_wd I A J) 40 (.inl (0, 15, .inl g)) = am_wd I (am_u A 40 g) J := am_wd_wr (Nat.le_of_ble_eq_true rfl) rfl
theorem wl_40 {I A : Nat → Nat → Int32} {J : Nat → Nat → Int64} : am_isL (am_rd (am_wd I A J) 40) = true := rfl
theorem wn_40 {I A : Nat → Nat → Int32} {J : Nat → Nat → Int64} : am_len (am_rd (am_wd I A J) 40) = 15 := rfl
theorem wr_41 {I A : Nat → Nat → Int32} {J : Nat → Nat → Int64} : am_rd (am_wd I A J) 41 = .inr (1, [.ref 42, .int (I 41 1), .ref 43, .ref 44, .ref 45, .int (I 41 5)]) := rfl
theorem wo_41 {I A : Nat → Nat → Int32} {J : Nat → Nat → Int64} : am_isO 1 (am_rd (am_wd I A J) 41) = true := rfl
theorem wf_41_0 {I A : Nat → Nat → Int32} {J : Nat → Nat → Int64} : am_isF 1 0 (am_rd (am_wd I A J) 41) = true := rfl
theorem wv_41_0 {I A : Nat → Nat → Int32} {J : Nat → Nat → Int64} : am_fld 0 (am_rd (am_wd I A J) 41) = .ref 42 := rfl
theorem wf_41_1 {I A : Nat → Nat → Int32} {J : Nat → Nat → Int64} : am_isF 1 1 (am_rd (am_wd I A J) 41) = true := rfl
theorem wv_41_1 {I A : Nat → Nat → Int32} {J : Nat → Nat → Int64} : am_fld 1 (am_rd (am_wd I A J) 41) = .int (I 41 1) := rfl
theorem wp_41_1 {I A : Nat → Nat → Int32} {J : Nat → Nat → Int64} {x : Int32} : am_wr (am_wd I A J) 41 (am_put 1 (am_rd (am_wd I A J) 41) (.int x)) = am_wd (am_u2 I 41 1 x) A J := am_wd_wr (Nat.le_of_ble_eq_true rfl) rfl
theorem wf_41_2 {I A : Nat → Nat → Int32} {J : Nat → Nat → Int64} : am_isF 1 2 (am_rd (am_wd I A J) 41) = true := rfl
theorem wv_41_2 {I A : Nat → Nat → Int32} {J : Nat → Nat → Int64} : am_fld 2 (am_rd (am_wd I A J) 41) = .ref 43 := rfl
theorem wf_41_3 {I A : Nat → Nat → Int32} {J : Nat → Nat → Int64} : am_isF 1 3 (am_rd (am_wd I A J) 41) = true := rfl
theorem wv_41_3 {I A : Nat → Nat → Int32} {J : Nat → Nat → Int64} : am_fld 3 (am_rd (am_wd I A J) 41) = .ref 44 := rfl
theorem wf_41_4 {I A : Nat → Nat → Int32} {J : Nat → Nat → Int64} : am_isF 1 4 (am_rd (am_wd I A J) 41) = true := rfl
theorem wv_41_4 {I A : Nat → Nat → Int32} {J : Nat → Nat → Int64} : am_fld 4 (am_rd (am_wd I A J) 41) = .ref 45 := rfl
theorem wf_41_5 {I A : Nat → Nat → Int32} {J : Nat → Nat → Int64} : am_isF 1 5 (am_rd (am_wd I A J) 41) = true := rfl
theorem wv_41_5 {I A : Nat → Nat → Int32} {J : Nat → Nat → Int64} : am_fld 5 (am_rd (am_wd I A J) 41) = .int (I 41 5) := rfl
theorem wp_41_5 {I A : Nat → Nat → Int32} {J : Nat → Nat → Int64} {x : Int32} : am_wr (am_wd I A J) 41 (am_put 5 (am_rd (am_wd I A J) 41) (.int x)) = am_wd (am_u2 I 41 5 x) A J := am_wd_wr (Nat.le_of_ble_eq_true rfl) rfl
theorem wr_42 {I A : Nat → Nat → Int32} {J : Nat → Nat → Int64} : am_rd (am_wd I A J) 42 = .inl (0, 8, .inl (A 42)) := rfl
theorem wi_42 {I A : Nat → Nat → Int32} {J : Nat → Nat → Int64} {i : Int32} : am_isI 0 (am_rd (am_wd I A J) 42) i = am_in i 8 := rfl
theorem wg_42 {I A : Nat → Nat → Int32} {J : Nat → Nat → Int64} {i : Int32} : am_geI (am_rd (am_wd I A J) 42) i = A 42 i.toNatClampNeg := rfl
theorem ws_42 {I A : Nat → Nat → Int32} {J : Nat → Nat → Int64} {i x : Int32} : am_wr (am_wd I A J) 42 (am_seI (am_rd (am_wd I A J) 42) i x) = am_wd I (am_u A 42 (upd (A 42) i.toNatClampNeg x)) J := am_wd_wr (Nat.le_of_ble_eq_true rfl) rfl
theorem ww_42 {I A : Nat → Nat → Int32} {J : Nat → Nat → Int64} {g : Nat → Int32} : am_wr (am_wd I A J) 42 (.inl (0, 8, .inl g)) = am_wd I (am_u A 42 g) J := am_wd_wr (Nat.le_of_ble_eq_true rfl) rfl
theorem wl_42 {I A : Nat → Nat → Int32} {J : Nat → Nat → Int64} : am_isL (am_rd (am_wd I A J) 42) = true := rfl
theorem wn_42 {I A : Nat → Nat → Int32} {J : Nat → Nat → Int64} : am_len (am_rd (am_wd I A J) 42) = 8 := rfl
theorem wr_43 {I A : Nat → Nat → Int32} {J : Nat → Nat → Int64} : am_rd (am_wd I A J) 43 = .inl (0, 3, .inl (A 43)) := rfl
theorem wi_43 {I A : Nat → Nat → Int32} {J : Nat → Nat → Int64} {i : Int32} : am_isI 0 (am_rd (am_wd I A J) 43) i = am_in i 3 := rfl
theorem wg_43 {I A : Nat → Nat → Int32} {J : Nat → Nat → Int64} {i : Int32} : am_geI (am_rd (am_wd I A J) 43) i = A 43 i.toNatClampNeg := rfl
theorem ws_43 {I A : Nat → Nat → Int32} {J : Nat → Nat → Int64} {i x : Int32} : am_wr (am_wd I A J) 43 (am_seI (am_rd (am_wd I A J) 43) i x) = am_wd I (am_u A 43 (upd (A 43) i.toNatClampNeg x)) J := am_wd_wr (Nat.le_of_ble_eq_true rfl) rfl
theorem ww_43 {I A : Nat → Nat → Int32} {J : Nat → Nat → Int64} {g : Nat → Int32} : am_wr (am_wd I A J) 43 (.inl (0, 3, .inl g)) = am_wd I (am_u A 43 g) J := am_wd_wr (Nat.le_of_ble_eq_true rfl) rfl
theorem wl_43 {I A : Nat → Nat → Int32} {J : Nat → Nat → Int64} : am_isL (am_rd (am_wd I A J) 43) = true := rfl
theorem wn_43 {I A : Nat → Nat → Int32} {J : Nat → Nat → Int64} : am_len (am_rd (am_wd I A J) 43) = 3 := rfl
theorem wr_44 {I A : Nat → Nat → Int32} {J : Nat → Nat → Int64} : am_rd (am_wd I A J) 44 = .inl (0, 8, .inl (A 44)) := rfl
theorem wi_44 {I A : Nat → Nat → Int32} {J : Nat → Nat → Int64} {i : Int32} : am_isI 0 (am_rd (am_wd I A J) 44) i = am_in i 8 := rfl
theorem wg_44 {I A : Nat → Nat → Int32} {J : Nat → Nat → Int64} {i : Int32} : am_geI (am_rd (am_wd I A J) 44) i = A 44 i.toNatClampNeg := rfl
theorem ws_44 {I A : Nat → Nat → Int32} {J : Nat → Nat → Int64} {i x : Int32} : am_wr (am_wd I A J) 44 (am_seI (am_rd (am_wd I A J) 44) i x) = am_wd I (am_u A 44 (upd (A 44) i.toNatClampNeg x)) J := am_wd_wr (Nat.le_of_ble_eq_true rfl) rfl
theorem ww_44 {I A : Nat → Nat → Int32} {J : Nat → Nat → Int64} {g : Nat → Int32} : am_wr (am_wd I A J) 44 (.inl (0, 8, .inl g)) = am_wd I (am_u A 44 g) J := am_wd_wr (Nat.le_of_ble_eq_true rfl) rfl
theorem wl_44 {I A : Nat → Nat → Int32} {J : Nat → Nat → Int64} : am_isL (am_rd (am_wd I A J) 44) = true := rfl
theorem wn_44 {I A : Nat → Nat → Int32} {J : Nat → Nat → Int64} : am_len (am_rd (am_wd I A J) 44) = 8 := rfl
theorem wr_45 {I A : Nat → Nat → Int32} {J : Nat → Nat → Int64} : am_rd (am_wd I A J) 45 = .inl (0, 8, .inl (A 45)) := rfl
theorem wi_45 {I A : Nat → Nat → Int32} {J : Nat → Nat → Int64} {i : Int32} : am_isI 0 (am_rd (am_wd I A J) 45) i = am_in i 8 := rfl
theorem wg_45 {I A : Nat → Nat → Int32} {J : Nat → Nat → Int64} {i : Int32} : am_geI (am_rd (am_wd I A J) 45) i = A 45 i.toNatClampNeg := rfl
theorem ws_45 {I A : Nat → Nat → Int32} {J : Nat → Nat → Int64} {i x : Int32} : am_wr (am_wd I A J) 45 (am_seI (am_rd (am_wd I A J) 45) i x) = am_wd I (am_u A 45 (upd (A 45) i.toNatClampNeg x)) J := am_wd_wr (Nat.le_of_ble_eq_true rfl) rfl
theorem ww_45 {I A : Nat → Nat → Int32} {J : Nat → Nat → Int64} {g : Nat → Int32} : am_wr (am_wd I A J) 45 (.inl (0, 8, .inl g)) = am_wd I (am_u A 45 g) J := am_wd_wr (Nat.le_of_ble_eq_true rfl) rfl
theorem wl_45 {I A : Nat → Nat → Int32} {J : Nat → Nat → Int64} : am_isL (am_rd (am_wd I A J) 45) = true := rfl
theorem wn_45 {I A : Nat → Nat → Int32} {J : Nat → Nat → Int64} : am_len (am_rd (am_wd I A J) 45) = 8 := rfl
theorem wr_46 {I A : Nat → Nat → Int32} {J : Nat → Nat → Int64} : am_rd (am_wd I A J) 46 = .inr (7, [.ref 47, .ref 48, .ref 49, .int (I 46 3)]) := rfl
theorem wo_46 {I A : Nat → Nat → Int32} {J : Nat → Nat → Int64} : am_isO 7 (am_rd (am_wd I A J) 46) = true := rfl
theorem wf_46_0 {I A : Nat → Nat → Int32} {J : Nat → Nat → Int64} : am_isF 7 0 (am_rd (am_wd I A J) 46) = true := rfl
theorem wv_46_0 {I A : Nat → Nat → Int32} {J : Nat → Nat → Int64} : am_fld 0 (am_rd (am_wd I A J) 46) = .ref 47 := rfl
theorem wf_46_1 {I A : Nat → Nat → Int32} {J : Nat → Nat → Int64} : am_isF 7 1 (am_rd (am_wd I A J) 46) = true := rfl
theorem wv_46_1 {I A : Nat → Nat → Int32} {J : Nat → Nat → Int64} : am_fld 1 (am_rd (am_wd I A J) 46) = .ref 48 := rfl
theorem wf_46_2 {I A : Nat → Nat → Int32} {J : Nat → Nat → Int64} : am_isF 7 2 (am_rd (am_wd I A J) 46) = true := rfl
theorem wv_46_2 {I A : Nat → Nat → Int32} {J : Nat → Nat → Int64} : am_fld 2 (am_rd (am_wd I A J) 46) = .ref 49 := rfl
theorem wf_46_3 {I A : Nat → Nat → Int32} {J : Nat → Nat → Int64} : am_isF 7 3 (am_rd (am_wd I A J) 46) = true := rfl
theorem wv_46_3 {I A : Nat → Nat → Int32} {J : Nat → Nat → Int64} : am_fld 3 (am_rd (am_wd I A J) 46) = .int (I 46 3) := rfl
theorem wp_46_3 {I A : Nat → Nat → Int32} {J : Nat → Nat → Int64} {x : Int32} : am_wr (am_wd I A J) 46 (am_put 3 (am_rd (am_wd I A J) 46) (.int x)) = am_wd (am_u2 I 46 3 x) A J := am_wd_wr (Nat.le_of_ble_eq_true rfl) rfl
theorem wr_47 {I A : Nat → Nat → Int32} {J : Nat → Nat → Int64} : am_rd (am_wd I A J) 47 = .inl (0, 48, .inl (A 47)) := rfl
theorem wi_47 {I A : Nat → Nat → Int32} {J : Nat → Nat → Int64} {i : Int32} : am_isI 0 (am_rd (am_wd I A J) 47) i = am_in i 48 := rfl
theorem wg_47 {I A : Nat → Nat → Int32} {J : Nat → Nat → Int64} {i : Int32} : am_geI (am_rd (am_wd I A J) 47) i = A 47 i.toNatClampNeg := rfl
theorem ws_47 {I A : Nat → Nat → Int32} {J : Nat → Nat → Int64} {i x : Int32} : am_wr (am_wd I A J) 47 (am_seI (am_rd (am_wd I A J) 47) i x) = am_wd I (am_u A 47 (upd (A 47) i.toNatClampNeg x)) J := am_wd_wr (Nat.le_of_ble_eq_true rfl) rfl
theorem ww_47 {I A : Nat → Nat → Int32} {J : Nat → Nat → Int64} {g : Nat → Int32} : am_wr (am_wd I A J) 47 (.inl (0, 48, .inl g)) = am_wd I (am_u A 47 g) J := am_wd_wr (Nat.le_of_ble_eq_true rfl) rfl
theorem wl_47 {I A : Nat → Nat → Int32} {J : Nat → Nat → Int64} : am_isL (am_rd (am_wd I A J) 47) = true := rfl
theorem wn_47 {I A : Nat → Nat → Int32} {J : Nat → Nat → Int64} : am_len (am_rd (am_wd I A J) 47) = 48 := rfl
theorem wr_48 {I A : Nat → Nat → Int32} {J : Nat → Nat → Int64} : am_rd (am_wd I A J) 48 = .inl (0, 5, .inl (A 48)) := rfl
theorem wi_48 {I A : Nat → Nat → Int32} {J : Nat → Nat → Int64} {i : Int32} : am_isI 0 (am_rd (am_wd I A J) 48) i = am_in i 5 := rfl
theorem wg_48 {I A : Nat → Nat → Int32} {J : Nat → Nat → Int64} {i : Int32} : am_geI (am_rd (am_wd I A J) 48) i = A 48 i.toNatClampNeg := rfl
theorem ws_48 {I A : Nat → Nat → Int32} {J : Nat → Nat → Int64} {i x : Int32} : am_wr (am_wd I A J) 48 (am_seI (am_rd (am_wd I A J) 48) i x) = am_wd I (am_u A 48 (upd (A 48) i.toNatClampNeg x)) J := am_wd_wr (Nat.le_of_ble_eq_true rfl) rfl
theorem ww_48 {I A : Nat → Nat → Int32} {J : Nat → Nat → Int64} {g : Nat → Int32} : am_wr (am_wd I A J) 48 (.inl (0, 5, .inl g)) = am_wd I (am_u A 48 g) J := am_wd_wr (Nat.le_of_ble_eq_true rfl) rfl
theorem wl_48 {I A : Nat → Nat → Int32} {J : Nat → Nat → Int64} : am_isL (am_rd (am_wd I A J) 48) = true := rfl
theorem wn_48 {I A : Nat → Nat → Int32} {J : Nat → Nat → Int64} : am_len (am_rd (am_wd I A J) 48) = 5 := rfl
theorem wr_49 {I A : Nat → Nat → Int32} {J : Nat → Nat → Int64} : am_rd (am_wd I A J) 49 = .inr (6, [.ref 50, .ref 51, .int (I 49 2), .ref 52, .int (I 49 4)]) := rfl
theorem wo_49 {I A : Nat → Nat → Int32} {J : Nat → Nat → Int64} : am_isO 6 (am_rd (am_wd I A J) 49) = true := rfl
theorem wf_49_0 {I A : Nat → Nat → Int32} {J : Nat → Nat → Int64} : am_isF 6 0 (am_rd (am_wd I A J) 49) = true := rfl
theorem wv_49_0 {I A : Nat → Nat → Int32} {J : Nat → Nat → Int64} : am_fld 0 (am_rd (am_wd I A J) 49) = .ref 50 := rfl
theorem wf_49_1 {I A : Nat → Nat → Int32} {J : Nat → Nat → Int64} : am_isF 6 1 (am_rd (am_wd I A J) 49) = true := rfl
theorem wv_49_1 {I A : Nat → Nat → Int32} {J : Nat → Nat → Int64} : am_fld 1 (am_rd (am_wd I A J) 49) = .ref 51 := rfl
theorem wf_49_2 {I A : Nat → Nat → Int32} {J : Nat → Nat → Int64} : am_isF 6 2 (am_rd (am_wd I A J) 49) = true := rfl
theorem wv_49_2 {I A : Nat → Nat → Int32} {J : Nat → Nat → Int64} : am_fld 2 (am_rd (am_wd I A J) 49) = .int (I 49 2) := rfl
theorem wp_49_2 {I A : Nat → Nat → Int32} {J : Nat → Nat → Int64} {x : Int32} : am_wr (am_wd I A J) 49 (am_put 2 (am_rd (am_wd I A J) 49) (.int x)) = am_wd (am_u2 I 49 2 x) A J := am_wd_wr (Nat.le_of_ble_eq_true rfl) rfl
theorem wf_49_3 {I A : Nat → Nat → Int32} {J : Nat → Nat → Int64} : am_isF 6 3 (am_rd (am_wd I A J) 49) = true := rfl
theorem wv_49_3 {I A : Nat → Nat → Int32} {J : Nat → Nat → Int64} : am_fld 3 (am_rd (am_wd I A J) 49) = .ref 52 := rfl
theorem wf_49_4 {I A : Nat → Nat → Int32} {J : Nat → Nat → Int64} : am_isF 6 4 (am_rd (am_wd I A J) 49) = true := rfl
theorem wv_49_4 {I A : Nat → Nat → Int32} {J : Nat → Nat → Int64} : am_fld 4 (am_rd (am_wd I A J) 49) = .int (I 49 4) := rfl
theorem wp_49_4 {I A : Nat → Nat → Int32} {J : Nat → Nat → Int64} {x : Int32} : am_wr (am_wd I A J) 49 (am_put 4 (am_rd (am_wd I A J) 49) (.int x)) = am_wd (am_u2 I 49 4 x) A J := am_wd_wr (Nat.le_of_ble_eq_true rfl) rfl
theorem wr_50 {I A : Nat → Nat → Int32} {J : Nat → Nat → Int64} : am_rd (am_wd I A J) 50 = .inl (0, 8, .inl (A 50)) := rfl
theorem wi_50 {I A : Nat → Nat → Int32} {J : Nat → Nat → Int64} {i : Int32} : am_isI 0 (am_rd (am_wd I A J) 50) i = am_in i 8 := rfl
theorem wg_50 {I A : Nat → Nat → Int32} {J : Nat → Nat → Int64} {i : Int32} : am_geI (am_rd (am_wd I A J) 50) i = A 50 i.toNatClampNeg := rfl
theorem ws_50 {I A : Nat → Nat → Int32} {J : Nat → Nat → Int64} {i x : Int32} : am_wr (am_wd I A J) 50 (am_seI (am_rd (am_wd I A J) 50) i x) = am_wd I (am_u A 50 (upd (A 50) i.toNatClampNeg x)) J := am_wd_wr (Nat.le_of_ble_eq_true rfl) rfl
theorem ww_50 {I A : Nat → Nat → Int32} {J : Nat → Nat → Int64} {g : Nat → Int32} : am_wr (am_wd I A J) 50 (.inl (0, 8, .inl g)) = am_wd I (am_u A 50 g) J := am_wd_wr (Nat.le_of_ble_eq_true rfl) rfl
theorem wl_50 {I A : Nat → Nat → Int32} {J : Nat → Nat → Int64} : am_isL (am_rd (am_wd I A J) 50) = true := rfl
theorem wn_50 {I A : Nat → Nat → Int32} {J : Nat → Nat → Int64} : am_len (am_rd (am_wd I A J) 50) = 8 := rfl
theorem wr_51 {I A : Nat → Nat → Int32} {J : Nat → Nat → Int64} : am_rd (am_wd I A J) 51 = .inl (0, 5, .inl (A 51)) := rfl
theorem wi_51 {I A : Nat → Nat → Int32} {J : Nat → Nat → Int64} {i : Int32} : am_isI 0 (am_rd (am_wd I A J) 51) i = am_in i 5 := rfl
theorem wg_51 {I A : Nat → Nat → Int32} {J : Nat → Nat → Int64} {i : Int32} : am_geI (am_rd (am_wd I A J) 51) i = A 51 i.toNatClampNeg := rfl
theorem ws_51 {I A : Nat → Nat → Int32} {J : Nat → Nat → Int64} {i x : Int32} : am_wr (am_wd I A J) 51 (am_seI (am_rd (am_wd I A J) 51) i x) = am_wd I (am_u A 51 (upd (A 51) i.toNatClampNeg x)) J := am_wd_wr (Nat.le_of_ble_eq_true rfl) rfl
theorem ww_51 {I A : Nat → Nat → Int32} {J : Nat → Nat → Int64} {g : Nat → Int32} : am_wr (am_wd I A J) 51 (.inl (0, 5, .inl g)) = am_wd I (am_u A 51 g) J := am_wd_wr (Nat.le_of_ble_eq_true rfl) rfl
theorem wl_51 {I A : Nat → Nat → Int32} {J : Nat → Nat → Int64} : am_isL (am_rd (am_wd I A J) 51) = true := rfl
theorem wn_51 {I A : Nat → Nat → Int32} {J : Nat → Nat → Int64} : am_len (am_rd (am_wd I A J) 51) = 5 := rfl
theorem wr_52 {I A : Nat → Nat → Int32} {J : Nat → Nat → Int64} : am_rd (am_wd I A J) 52 = .inl (0, 5, .inl (A 52)) := rfl
theorem wi_52 {I A : Nat → Nat → Int32} {J : Nat → Nat → Int64} {i : Int32} : am_isI 0 (am_rd (am_wd I A J) 52) i = am_in i 5 := rfl
theorem wg_52 {I A : Nat → Nat → Int32} {J : Nat → Nat → Int64} {i : Int32} : am_geI (am_rd (am_wd I A J) 52) i = A 52 i.toNatClampNeg := rfl
theorem ws_52 {I A : Nat → Nat → Int32} {J : Nat → Nat → Int64} {i x : Int32} : am_wr (am_wd I A J) 52 (am_seI (am_rd (am_wd I A J) 52) i x) = am_wd I (am_u A 52 (upd (A 52) i.toNatClampNeg x)) J := am_wd_wr (Nat.le_of_ble_eq_true rfl) rfl
theorem ww_52 {I A : Nat → Nat → Int32} {J : Nat → Nat → Int64} {g : Nat → Int32} : am_wr (am_wd I A J) 52 (.inl (0, 5, .inl g)) = am_wd I (am_u A 52 g) J := am_wd_wr (Nat.le_of_ble_eq_true rfl) rfl
theorem wl_52 {I A : Nat → Nat → Int32} {J : Nat → Nat → Int64} : am_isL (am_rd (am_wd I A J) 52) = true := rfl
theorem wn_52 {I A : Nat → Nat → Int32} {J : Nat → Nat → Int64} : am_len (am_rd (am_wd I A J) 52) = 5 := rfl
theorem wr_53 {I A : Nat → Nat → Int32} {J : Nat → Nat → Int64} : am_rd (am_wd I A J) 53 = .inr (7, [.ref 54, .ref 55, .ref 56, .int (I 53 3)]) := rfl
theorem wo_53 {I A : Nat → Nat → Int32} {J : Nat → Nat → Int64} : am_isO 7 (am_rd (am_wd I A J) 53) = true := rfl
theorem wf_53_0 {I A : Nat → Nat → Int32} {J : Nat → Nat → Int64} : am_isF 7 0 (am_rd (am_wd I A J) 53) = true := rfl
theorem wv_53_0 {I A : Nat → Nat → Int32} {J : Nat → Nat → Int64} : am_fld 0 (am_rd (am_wd I A J) 53) = .ref 54 := rfl
theorem wf_53_1 {I A : Nat → Nat → Int32} {J : Nat → Nat → Int64} : am_isF 7 1 (am_rd (am_wd I A J) 53) = true := rfl
theorem wv_53_1 {I A : Nat → Nat → Int32} {J : Nat → Nat → Int64} : am_fld 1 (am_rd (am_wd I A J) 53) = .ref 55 := rfl
theorem wf_53_2 {I A : Nat → Nat → Int32} {J : Nat → Nat → Int64} : am_isF 7 2 (am_rd (am_wd I A J) 53) = true := rfl
theorem wv_53_2 {I A : Nat → Nat → Int32} {J : Nat → Nat → Int64} : am_fld 2 (am_rd (am_wd I A J) 53) = .ref 56 := rfl
theorem wf_53_3 {I A : Nat → Nat → Int32} {J : Nat → Nat → Int64} : am_isF 7 3 (am_rd (am_wd I A J) 53) = true := rfl
theorem wv_53_3 {I A : Nat → Nat → Int32} {J : Nat → Nat → Int64} : am_fld 3 (am_rd (am_wd I A J) 53) = .int (I 53 3) := rfl
theorem wp_53_3 {I A : Nat → Nat → Int32} {J : Nat → Nat → Int64} {x : Int32} : am_wr (am_wd I A J) 53 (am_put 3 (am_rd (am_wd I A J) 53) (.int x)) = am_wd (am_u2 I 53 3 x) A J := am_wd_wr (Nat.le_of_ble_eq_true rfl) rfl
theorem wr_54 {I A : Nat → Nat → Int32} {J : Nat → Nat → Int64} : am_rd (am_wd I A J) 54 = .inl (0, 48, .inl (A 54)) := rfl
theorem wi_54 {I A : Nat → Nat → Int32} {J : Nat → Nat → Int64} {i : Int32} : am_isI 0 (am_rd (am_wd I A J) 54) i = am_in i 48 := rfl
theorem wg_54 {I A : Nat → Nat → Int32} {J : Nat → Nat → Int64} {i : Int32} : am_geI (am_rd (am_wd I A J) 54) i = A 54 i.toNatClampNeg := rfl
theorem ws_54 {I A : Nat → Nat → Int32} {J : Nat → Nat → Int64} {i x : Int32} : am_wr (am_wd I A J) 54 (am_seI (am_rd (am_wd I A J) 54) i x) = am_wd I (am_u A 54 (upd (A 54) i.toNatClampNeg x)) J := am_wd_wr (Nat.le_of_ble_eq_true rfl) rfl
theorem ww_54 {I A : Nat → Nat → Int32} {J : Nat → Nat → Int64} {g : Nat → Int32} : am_wr (am_wd I A J) 54 (.inl (0, 48, .inl g)) = am_wd I (am_u A 54 g) J := am_wd_wr (Nat.le_of_ble_eq_true rfl) rfl
theorem wl_54 {I A : Nat → Nat → Int32} {J : Nat → Nat → Int64} : am_isL (am_rd (am_wd I A J) 54) = true := rfl
theorem wn_54 {I A : Nat → Nat → Int32} {J : Nat → Nat → Int64} : am_len (am_rd (am_wd I A J) 54) = 48 := rfl
theorem wr_55 {I A : Nat → Nat → Int32} {J : Nat → Nat → Int64} : am_rd (am_wd I A J) 55 = .inl (0, 5, .inl (A 55)) := rfl
theorem wi_55 {I A : Nat → Nat → Int32} {J : Nat → Nat → Int64} {i : Int32} : am_isI 0 (am_rd (am_wd I A J) 55) i = am_in i 5 := rfl
theorem wg_55 {I A : Nat → Nat → Int32} {J : Nat → Nat → Int64} {i : Int32} : am_geI (am_rd (am_wd I A J) 55) i = A 55 i.toNatClampNeg := rfl
theorem ws_55 {I A : Nat → Nat → Int32} {J : Nat → Nat → Int64} {i x : Int32} : am_wr (am_wd I A J) 55 (am_seI (am_rd (am_wd I A J) 55) i x) = am_wd I (am_u A 55 (upd (A 55) i.toNatClampNeg x)) J := am_wd_wr (Nat.le_of_ble_eq_true rfl) rfl
theorem ww_55 {I A : Nat → Nat → Int32} {J : Nat → Nat → Int64} {g : Nat → Int32} : am_wr (am_wd I A J) 55 (.inl (0, 5, .inl g)) = am_wd I (am_u A 55 g) J := am_wd_wr (Nat.le_of_ble_eq_true rfl) rfl
theorem wl_55 {I A : Nat → Nat → Int32} {J : Nat → Nat → Int64} : am_isL (am_rd (am_wd I A J) 55) = true := rfl
theorem wn_55 {I A : Nat → Nat → Int32} {J : Nat → Nat → Int64} : am_len (am_rd (am_wd I A J) 55) = 5 := rfl
theorem wr_56 {I A : Nat → Nat → Int32} {J : Nat → Nat → Int64} : am_rd (am_wd I A J) 56 = .inr (6, [.ref 57, .ref 58, .int (I 56 2), .ref 59, .int (I 56 4)]) := rfl
theorem wo_56 {I A : Nat → Nat → Int32} {J : Nat → Nat → Int64} : am_isO 6 (am_rd (am_wd I A J) 56) = true := rfl
theorem wf_56_0 {I A : Nat → Nat → Int32} {J : Nat → Nat → Int64} : am_isF 6 0 (am_rd (am_wd I A J) 56) = true := rfl
theorem wv_56_0 {I A : Nat → Nat → Int32} {J : Nat → Nat → Int64} : am_fld 0 (am_rd (am_wd I A J) 56) = .ref 57 := rfl
theorem wf_56_1 {I A : Nat → Nat → Int32} {J : Nat → Nat → Int64} : am_isF 6 1 (am_rd (am_wd I A J) 56) = true := rfl
theorem wv_56_1 {I A : Nat → Nat → Int32} {J : Nat → Nat → Int64} : am_fld 1 (am_rd (am_wd I A J) 56) = .ref 58 := rfl
theorem wf_56_2 {I A : Nat → Nat → Int32} {J : Nat → Nat → Int64} : am_isF 6 2 (am_rd (am_wd I A J) 56) = true := rfl
theorem wv_56_2 {I A : Nat → Nat → Int32} {J : Nat → Nat → Int64} : am_fld 2 (am_rd (am_wd I A J) 56) = .int (I 56 2) := rfl
theorem wp_56_2 {I A : Nat → Nat → Int32} {J : Nat → Nat → Int64} {x : Int32} : am_wr (am_wd I A J) 56 (am_put 2 (am_rd (am_wd I A J) 56) (.int x)) = am_wd (am_u2 I 56 2 x) A J := am_wd_wr (Nat.le_of_ble_eq_true rfl) rfl
theorem wf_56_3 {I A : Nat → Nat → Int32} {J : Nat → Nat → Int64} : am_isF 6 3 (am_rd (am_wd I A J) 56) = true := rfl
theorem wv_56_3 {I A : Nat → Nat → Int32} {J : Nat → Nat → Int64} : am_fld 3 (am_rd (am_wd I A J) 56) = .ref 59 := rfl
theorem wf_56_4 {I A : Nat → Nat → Int32} {J : Nat → Nat → Int64} : am_isF 6 4 (am_rd (am_wd I A J) 56) = true := rfl
theorem wv_56_4 {I A : Nat → Nat → Int32} {J : Nat → Nat → Int64} : am_fld 4 (am_rd (am_wd I A J) 56) = .int (I 56 4) := rfl
theorem wp_56_4 {I A : Nat → Nat → Int32} {J : Nat → Nat → Int64} {x : Int32} : am_wr (am_wd I A J) 56 (am_put 4 (am_rd (am_wd I A J) 56) (.int x)) = am_wd (am_u2 I 56 4 x) A J := am_wd_wr (Nat.le_of_ble_eq_true rfl) rfl
theorem wr_57 {I A : Nat → Nat → Int32} {J : Nat → Nat → Int64} : am_rd (am_wd I A J) 57 = .inl (0, 8, .inl (A 57)) := rfl
theorem wi_57 {I A : Nat → Nat → Int32} {J : Nat → Nat → Int64} {i : Int32} : am_isI 0 (am_rd (am_wd I A J) 57) i = am_in i 8 := rfl
theorem wg_57 {I A : Nat → Nat → Int32} {J : Nat → Nat → Int64} {i : Int32} : am_geI (am_rd (am_wd I A J) 57) i = A 57 i.toNatClampNeg := rfl
theorem ws_57 {I A : Nat → Nat → Int32} {J : Nat → Nat → Int64} {i x : Int32} : am_wr (am_wd I A J) 57 (am_seI (am_rd (am_wd I A J) 57) i x) = am_wd I (am_u A 57 (upd (A 57) i.toNatClampNeg x)) J := am_wd_wr (Nat.le_of_ble_eq_true rfl) rfl
theorem ww_57 {I A : Nat → Nat → Int32} {J : Nat → Nat → Int64} {g : Nat → Int32} : am_wr (am_wd I A J) 57 (.inl (0, 8, .inl g)) = am_wd I (am_u A 57 g) J := am_wd_wr (Nat.le_of_ble_eq_true rfl) rfl
theorem wl_57 {I A : Nat → Nat → Int32} {J : Nat → Nat → Int64} : am_isL (am_rd (am_wd I A J) 57) = true := rfl
theorem wn_57 {I A : Nat → Nat → Int32} {J : Nat → Nat → Int64} : am_len (am_rd (am_wd I A J) 57) = 8 := rfl
theorem wr_58 {I A : Nat → Nat → Int32} {J : Nat → Nat → Int64} : am_rd (am_wd I A J) 58 = .inl (0, 5, .inl (A 58)) := rfl
theorem wi_58 {I A : Nat → Nat → Int32} {J : Nat → Nat → Int64} {i : Int32} : am_isI 0 (am_rd (am_wd I A J) 58) i = am_in i 5 := rfl
theorem wg_58 {I A : Nat → Nat → Int32} {J : Nat → Nat → Int64} {i : Int32} : am_geI (am_rd (am_wd I A J) 58) i = A 58 i.toNatClampNeg := rfl
theorem ws_58 {I A : Nat → Nat → Int32} {J : Nat → Nat → Int64} {i x : Int32} : am_wr (am_wd I A J) 58 (am_seI (am_rd (am_wd I A J) 58) i x) = am_wd I (am_u A 58 (upd (A 58) i.toNatClampNeg x)) J := am_wd_wr (Nat.le_of_ble_eq_true rfl) rfl
theorem ww_58 {I A : Nat → Nat → Int32} {J : Nat → Nat → Int64} {g : Nat → Int32} : am_wr (am_wd I A J) 58 (.inl (0, 5, .inl g)) = am_wd I (am_u A 58 g) J := am_wd_wr (Nat.le_of_ble_eq_true rfl) rfl
theorem wl_58 {I A : Nat → Nat → Int32} {J : Nat → Nat → Int64} : am_isL (am_rd (am_wd I A J) 58) = true := rfl
theorem wn_58 {I A : Nat → Nat → Int32} {J : Nat → Nat → Int64} : am_len (am_rd (am_wd I A J) 58) = 5 := rfl
theorem wr_59 {I A : Nat → Nat → Int32} {J : Nat → Nat → Int64} : am_rd (am_wd I A J) 59 = .inl (0, 5, .inl (A 59)) := rfl
theorem wi_59 {I A : Nat → Nat → Int32} {J : Nat → Nat → Int64} {i : Int32} : am_isI 0 (am_rd (am_wd I A J) 59) i = am_in i 5 := rfl
theorem wg_59 {I A : Nat → Nat → Int32} {J : Nat → Nat → Int64} {i : Int32} : am_geI (am_rd (am_wd I A J) 59) i = A 59 i.toNatClampNeg := rfl
theorem ws_59 {I A : Nat → Nat → Int32} {J : Nat → Nat → Int64} {i x : Int32} : am_wr (am_wd I A J) 59 (am_seI (am_rd (am_wd I A J) 59) i x) = am_wd I (am_u A 59 (upd (A 59) i.toNatClampNeg x)) J := am_wd_wr (Nat.le_of_ble_eq_true rfl) rfl
theorem ww_59 {I A : Nat → Nat → Int32} {J : Nat → Nat → Int64} {g : Nat → Int32} : am_wr (am_wd I A J) 59 (.inl (0, 5, .inl g)) = am_wd I (am_u A 59 g) J := am_wd_wr (Nat.le_of_ble_eq_true rfl) rfl
theorem wl_59 {I A : Nat → Nat → Int32} {J : Nat → Nat → Int64} : am_isL (am_rd (am_wd I A J) 59) = true := rfl
theorem wn_59 {I A : Nat → Nat → Int32} {J : Nat → Nat → Int64} : am_len (am_rd (am_wd I A J) 59) = 5 := rfl
theorem wr_60 {I A : Nat → Nat → Int32} {J : Nat → Nat → Int64} : am_rd (am_wd I A J) 60 = .inr (0, [.ref 61, .ref 62, .ref 63, .ref 64, .int (I 60 4), .int (I 60 5)]) := rfl
theorem wo_60 {I A : Nat → Nat → Int32} {J : Nat → Nat → Int64} : am_isO 0 (am_rd (am_wd I A J) 60) = true := rfl
theorem wf_60_0 {I A : Nat → Nat → Int32} {J : Nat → Nat → Int64} : am_isF 0 0 (am_rd (am_wd I A J) 60) = true := rfl
theorem wv_60_0 {I A : Nat → Nat → Int32} {J : Nat → Nat → Int64} : am_fld 0 (am_rd (am_wd I A J) 60) = .ref 61 := rfl
theorem wf_60_1 {I A : Nat → Nat → Int32} {J : Nat → Nat → Int64} : am_isF 0 1 (am_rd (am_wd I A J) 60) = true := rfl
theorem wv_60_1 {I A : Nat → Nat → Int32} {J : Nat → Nat → Int64} : am_fld 1 (am_rd (am_wd I A J) 60) = .ref 62 := rfl
theorem wf_60_2 {I A : Nat → Nat → Int32} {J : Nat → Nat → Int64} : am_isF 0 2 (am_rd (am_wd I A J) 60) = true := rfl
theorem wv_60_2 {I A : Nat → Nat → Int32} {J : Nat → Nat → Int64} : am_fld 2 (am_rd (am_wd I A J) 60) = .ref 63 := rfl
theorem wf_60_3 {I A : Nat → Nat → Int32} {J : Nat → Nat → Int64} : am_isF 0 3 (am_rd (am_wd I A J) 60) = true := rfl
theorem wv_60_3 {I A : Nat → Nat → Int32} {J : Nat → Nat → Int64} : am_fld 3 (am_rd (am_wd I A J) 60) = .ref 64 := rfl
theorem wf_60_4 {I A : Nat → Nat → Int32} {J : Nat → Nat → Int64} : am_isF 0 4 (am_rd (am_wd I A J) 60) = true := rfl
theorem wv_60_4 {I A : Nat → Nat → Int32} {J : Nat → Nat → Int64} : am_fld 4 (am_rd (am_wd I A J) 60) = .int (I 60 4) := rfl
theorem wp_60_4 {I A : Nat → Nat → Int32} {J : Nat → Nat → Int64} {x : Int32} : am_wr (am_wd I A J) 60 (am_put 4 (am_rd (am_wd I A J) 60) (.int x)) = am_wd (am_u2 I 60 4 x) A J := am_wd_wr (Nat.le_of_ble_eq_true rfl) rfl
theorem wf_60_5 {I A : Nat → Nat → Int32} {J : Nat → Nat → Int64} : am_isF 0 5 (am_rd (am_wd I A J) 60) = true := rfl
theorem wv_60_5 {I A : Nat → Nat → Int32} {J : Nat → Nat → Int64} : am_fld 5 (am_rd (am_wd I A J) 60) = .int (I 60 5) := rfl
theorem wp_60_5 {I A : Nat → Nat → Int32} {J : Nat → Nat → Int64} {x : Int32} : am_wr (am_wd I A J) 60 (am_put 5 (am_rd (am_wd I A J) 60) (.int x)) = am_wd (am_u2 I 60 5 x) A J := am_wd_wr (Nat.le_of_ble_eq_true rfl) rfl
theorem wr_61 {I A : Nat → Nat → Int32} {J : Nat → Nat → Int64} : am_rd (am_wd I A J) 61 = .inl (0, 40, .inl (A 61)) := rfl
theorem wi_61 {I A : Nat → Nat → Int32} {J : Nat → Nat → Int64} {i : Int32} : am_isI 0 (am_rd (am_wd I A J) 61) i = am_in i 40 := rfl
theorem wg_61 {I A : Nat → Nat → Int32} {J : Nat → Nat → Int64} {i : Int32} : am_geI (am_rd (am_wd I A J) 61) i = A 61 i.toNatClampNeg := rfl
theorem ws_61 {I A : Nat → Nat → Int32} {J : Nat → Nat → Int64} {i x : Int32} : am_wr (am_wd I A J) 61 (am_seI (am_rd (am_wd I A J) 61) i x) = am_wd I (am_u A 61 (upd (A 61) i.toNatClampNeg x)) J := am_wd_wr (Nat.le_of_ble_eq_true rfl) rfl
theorem ww_61 {I A : Nat → Nat → Int32} {J : Nat → Nat → Int64} {g : Nat → Int32} : am_wr (am_wd I A J) 61 (.inl (0, 40, .inl g)) = am_wd I (am_u A 61 g) J := am_wd_wr (Nat.le_of_ble_eq_true rfl) rfl
theorem wl_61 {I A : Nat → Nat → Int32} {J : Nat → Nat → Int64} : am_isL (am_rd (am_wd I A J) 61) = true := rfl
theorem wn_61 {I A : Nat → Nat → Int32} {J : Nat → Nat → Int64} : am_len (am_rd (am_wd I A J) 61) = 40 := rfl
theorem wr_62 {I A : Nat → Nat → Int32} {J : Nat → Nat → Int64} : am_rd (am_wd I A J) 62 = .inl (0, 40, .inl (A 62)) := rfl
theorem wi_62 {I A : Nat → Nat → Int32} {J : Nat → Nat → Int64} {i : Int32} : am_isI 0 (am_rd (am_wd I A J) 62) i = am_in i 40 := rfl
theorem wg_62 {I A : Nat → Nat → Int32} {J : Nat → Nat → Int64} {i : Int32} : am_geI (am_rd (am_wd I A J) 62) i = A 62 i.toNatClampNeg := rfl
theorem ws_62 {I A : Nat → Nat → Int32} {J : Nat → Nat → Int64} {i x : Int32} : am_wr (am_wd I A J) 62 (am_seI (am_rd (am_wd I A J) 62) i x) = am_wd I (am_u A 62 (upd (A 62) i.toNatClampNeg x)) J := am_wd_wr (Nat.le_of_ble_eq_true rfl) rfl
theorem ww_62 {I A : Nat → Nat → Int32} {J : Nat → Nat → Int64} {g : Nat → Int32} : am_wr (am_wd I A J) 62 (.inl (0, 40, .inl g)) = am_wd I (am_u A 62 g) J := am_wd_wr (Nat.le_of_ble_eq_true rfl) rfl
theorem wl_62 {I A : Nat → Nat → Int32} {J : Nat → Nat → Int64} : am_isL (am_rd (am_wd I A J) 62) = true := rfl
theorem wn_62 {I A : Nat → Nat → Int32} {J : Nat → Nat → Int64} : am_len (am_rd (am_wd I A J) 62) = 40 := rfl
theorem wr_63 {I A : Nat → Nat → Int32} {J : Nat → Nat → Int64} : am_rd (am_wd I A J) 63 = .inl (0, 40, .inl (A 63)) := rfl
theorem wi_63 {I A : Nat → Nat → Int32} {J : Nat → Nat → Int64} {i : Int32} : am_isI 0 (am_rd (am_wd I A J) 63) i = am_in i 40 := rfl
theorem wg_63 {I A : Nat → Nat → Int32} {J : Nat → Nat → Int64} {i : Int32} : am_geI (am_rd (am_wd I A J) 63) i = A 63 i.toNatClampNeg := rfl
theorem ws_63 {I A : Nat → Nat → Int32} {J : Nat → Nat → Int64} {i x : Int32} : am_wr (am_wd I A J) 63 (am_seI (am_rd (am_wd I A J) 63) i x) = am_wd I (am_u A 63 (upd (A 63) i.toNatClampNeg x)) J := am_wd_wr (Nat.le_of_ble_eq_true rfl) rfl
theorem ww_63 {I A : Nat → Nat → Int32} {J : Nat → Nat → Int64} {g : Nat → Int32} : am_wr (am_wd I A J) 63 (.inl (0, 40, .inl g)) = am_wd I (am_u A 63 g) J := am_wd_wr (Nat.le_of_ble_eq_true rfl) rfl
theorem wl_63 {I A : Nat → Nat → Int32} {J : Nat → Nat → Int64} : am_isL (am_rd (am_wd I A J) 63) = true := rfl
theorem wn_63 {I A : Nat → Nat → Int32} {J : Nat → Nat → Int64} : am_len (am_rd (am_wd I A J) 63) = 40 := rfl
theorem wr_64 {I A : Nat → Nat → Int32} {J : Nat → Nat → Int64} : am_rd (am_wd I A J) 64 = .inl (0, 40, .inl (A 64)) := rfl
theorem wi_64 {I A : Nat → Nat → Int32} {J : Nat → Nat → Int64} {i : Int32} : am_isI 0 (am_rd (am_wd I A J) 64) i = am_in i 40 := rfl
theorem wg_64 {I A : Nat → Nat → Int32} {J : Nat → Nat → Int64} {i : Int32} : am_geI (am_rd (am_wd I A J) 64) i = A 64 i.toNatClampNeg := rfl
theorem ws_64 {I A : Nat → Nat → Int32} {J : Nat → Nat → Int64} {i x : Int32} : am_wr (am_wd I A J) 64 (am_seI (am_rd (am_wd I A J) 64) i x) = am_wd I (am_u A 64 (upd (A 64) i.toNatClampNeg x)) J := am_wd_wr (Nat.le_of_ble_eq_true rfl) rfl
theorem ww_64 {I A : Nat → Nat → Int32} {J : Nat → Nat → Int64} {g : Nat → Int32} : am_wr (am_wd I A J) 64 (.inl (0, 40, .inl g)) = am_wd I (am_u A 64 g) J := am_wd_wr (Nat.le_of_ble_eq_true rfl) rfl
theorem wl_64 {I A : Nat → Nat → Int32} {J : Nat → Nat → Int64} : am_isL (am_rd (am_wd I A J) 64) = true := rfl
theorem wn_64 {I A : Nat → Nat → Int32} {J : Nat → Nat → Int64} : am_len (am_rd (am_wd I A J) 64) = 40 := rfl
theorem wr_65 {I A : Nat → Nat → Int32} {J : Nat → Nat → Int64} : am_rd (am_wd I A J) 65 = .inr (3, [.ref 66, .int (I 65 1), .ref 67, .int (I 65 3), .int (I 65 4), .int (I 65 5)]) := rfl
theorem wo_65 {I A : Nat → Nat → Int32} {J : Nat → Nat → Int64} : am_isO 3 (am_rd (am_wd I A J) 65) = true := rfl
theorem wf_65_0 {I A : Nat → Nat → Int32} {J : Nat → Nat → Int64} : am_isF 3 0 (am_rd (am_wd I A J) 65) = true := rfl
theorem wv_65_0 {I A : Nat → Nat → Int32} {J : Nat → Nat → Int64} : am_fld 0 (am_rd (am_wd I A J) 65) = .ref 66 := rfl
theorem wf_65_1 {I A : Nat → Nat → Int32} {J : Nat → Nat → Int64} : am_isF 3 1 (am_rd (am_wd I A J) 65) = true := rfl
theorem wv_65_1 {I A : Nat → Nat → Int32} {J : Nat → Nat → Int64} : am_fld 1 (am_rd (am_wd I A J) 65) = .int (I 65 1) := rfl
theorem wp_65_1 {I A : Nat → Nat → Int32} {J : Nat → Nat → Int64} {x : Int32} : am_wr (am_wd I A J) 65 (am_put 1 (am_rd (am_wd I A J) 65) (.int x)) = am_wd (am_u2 I 65 1 x) A J := am_wd_wr (Nat.le_of_ble_eq_true rfl) rfl
theorem wf_65_2 {I A : Nat → Nat → Int32} {J : Nat → Nat → Int64} : am_isF 3 2 (am_rd (am_wd I A J) 65) = true := rfl
theorem wv_65_2 {I A : Nat → Nat → Int32} {J : Nat → Nat → Int64} : am_fld 2 (am_rd (am_wd I A J) 65) = .ref 67 := rfl
theorem wf_65_3 {I A : Nat → Nat → Int32} {J : Nat → Nat → Int64} : am_isF 3 3 (am_rd (am_wd I A J) 65) = true := rfl
theorem wv_65_3 {I A : Nat → Nat → Int32} {J : Nat → Nat → Int64} : am_fld 3 (am_rd (am_wd I A J) 65) = .int (I 65 3) := rfl
theorem wp_65_3 {I A : Nat → Nat → Int32} {J : Nat → Nat → Int64} {x : Int32} : am_wr (am_wd I A J) 65 (am_put 3 (am_rd (am_wd I A J) 65) (.int x)) = am_wd (am_u2 I 65 3 x) A J := am_wd_wr (Nat.le_of_ble_eq_true rfl) rfl
theorem wf_65_4 {I A : Nat → Nat → Int32} {J : Nat → Nat → Int64} : am_isF 3 4 (am_rd (am_wd I A J) 65) = true := rfl
theorem wv_65_4 {I A : Nat → Nat → Int32} {J : Nat → Nat → Int64} : am_fld 4 (am_rd (am_wd I A J) 65) = .int (I 65 4) := rfl
theorem wp_65_4 {I A : Nat → Nat → Int32} {J : Nat → Nat → Int64} {x : Int32} : am_wr (am_wd I A J) 65 (am_put 4 (am_rd (am_wd I A J) 65) (.int x)) = am_wd (am_u2 I 65 4 x) A J := am_wd_wr (Nat.le_of_ble_eq_true rfl) rfl
theorem wf_65_5 {I A : Nat → Nat → Int32} {J : Nat → Nat → Int64} : am_isF 3 5 (am_rd (am_wd I A J) 65) = true := rfl
theorem wv_65_5 {I A : Nat → Nat → Int32} {J : Nat → Nat → Int64} : am_fld 5 (am_rd (am_wd I A J) 65) = .int (I 65 5) := rfl
theorem wp_65_5 {I A : Nat → Nat → Int32} {J : Nat → Nat → Int64} {x : Int32} : am_wr (am_wd I A J) 65 (am_put 5 (am_rd (am_wd I A J) 65) (.int x)) = am_wd (am_u2 I 65 5 x) A J := am_wd_wr (Nat.le_of_ble_eq_true rfl) rfl
theorem wr_66 {I A : Nat → Nat → Int32} {J : Nat → Nat → Int64} : am_rd (am_wd I A J) 66 = .inl (0, 50, .inl (A 66)) := rfl
theorem wi_66 {I A : Nat → Nat → Int32} {J : Nat → Nat → Int64} {i : Int32} : am_isI 0 (am_rd (am_wd I A J) 66) i = am_in i 50 := rfl
theorem wg_66 {I A : Nat → Nat → Int32} {J : Nat → Nat → Int64} {i : Int32} : am_geI (am_rd (am_wd I A J) 66) i = A 66 i.toNatClampNeg := rfl
theorem ws_66 {I A : Nat → Nat → Int32} {J : Nat → Nat → Int64} {i x : Int32} : am_wr (am_wd I A J) 66 (am_seI (am_rd (am_wd I A J) 66) i x) = am_wd I (am_u A 66 (upd (A 66) i.toNatClampNeg x)) J := am_wd_wr (Nat.le_of_ble_eq_true rfl) rfl
theorem ww_66 {I A : Nat → Nat → Int32} {J : Nat → Nat → Int64} {g : Nat → Int32} : am_wr (am_wd I A J) 66 (.inl (0, 50, .inl g)) = am_wd I (am_u A 66 g) J := am_wd_wr (Nat.le_of_ble_eq_true rfl) rfl
theorem wl_66 {I A : Nat → Nat → Int32} {J : Nat → Nat → Int64} : am_isL (am_rd (am_wd I A J) 66) = true := rfl
theorem wn_66 {I A : Nat → Nat → Int32} {J : Nat → Nat → Int64} : am_len (am_rd (am_wd I A J) 66) = 50 := rfl
theorem wr_67 {I A : Nat → Nat → Int32} {J : Nat → Nat → Int64} : am_rd (am_wd I A J) 67 = .inl (0, 24, .inl (A 67)) := rfl
theorem wi_67 {I A : Nat → Nat → Int32} {J : Nat → Nat → Int64} {i : Int32} : am_isI 0 (am_rd (am_wd I A J) 67) i = am_in i 24 := rfl
theorem wg_67 {I A : Nat → Nat → Int32} {J : Nat → Nat → Int64} {i : Int32} : am_geI (am_rd (am_wd I A J) 67) i = A 67 i.toNatClampNeg := rfl
theorem ws_67 {I A : Nat → Nat → Int32} {J : Nat → Nat → Int64} {i x : Int32} : am_wr (am_wd I A J) 67 (am_seI (am_rd (am_wd I A J) 67) i x) = am_wd I (am_u A 67 (upd (A 67) i.toNatClampNeg x)) J := am_wd_wr (Nat.le_of_ble_eq_true rfl) rfl
theorem ww_67 {I A : Nat → Nat → Int32} {J : Nat → Nat → Int64} {g : Nat → Int32} : am_wr (am_wd I A J) 67 (.inl (0, 24, .inl g)) = am_wd I (am_u A 67 g) J := am_wd_wr (Nat.le_of_ble_eq_true rfl) rfl
theorem wl_67 {I A : Nat → Nat → Int32} {J : Nat → Nat → Int64} : am_isL (am_rd (am_wd I A J) 67) = true := rfl
theorem wn_67 {I A : Nat → Nat → Int32} {J : Nat → Nat → Int64} : am_len (am_rd (am_wd I A J) 67) = 24 := rfl
theorem wr_68 {I A : Nat → Nat → Int32} {J : Nat → Nat → Int64} : am_rd (am_wd I A J) 68 = .inl (3, 6, .inr (.inr (.inr (.inr (fun j => if j < 6 then some (69 + 2 * j) else none))))) := rfl
theorem wi_68 {I A : Nat → Nat → Int32} {J : Nat → Nat → Int64} {i : Int32} : am_isA (am_rd (am_wd I A J) 68) i = am_in i 6 := rfl
theorem wg_68 {I A : Nat → Nat → Int32} {J : Nat → Nat → Int64} {i : Int32} : am_geA (am_rd (am_wd I A J) 68) i = va_rf ((fun j => if j < 6 then some (69 + 2 * j) else none) i.toNatClampNeg) := rfl
theorem wl_68 {I A : Nat → Nat → Int32} {J : Nat → Nat → Int64} : am_isL (am_rd (am_wd I A J) 68) = true := rfl
theorem wn_68 {I A : Nat → Nat → Int32} {J : Nat → Nat → Int64} : am_len (am_rd (am_wd I A J) 68) = 6 := rfl
theorem wr_69 {I A : Nat → Nat → Int32} {J : Nat → Nat → Int64} : am_rd (am_wd I A J) 69 = .inr (8, [.int (I 69 0), .int (I 69 1), .int (I 69 2), .int (I 69 3), .ref 70]) := rfl
theorem wo_69 {I A : Nat → Nat → Int32} {J : Nat → Nat → Int64} : am_isO 8 (am_rd (am_wd I A J) 69) = true := rfl
theorem wf_69_0 {I A : Nat → Nat → Int32} {J : Nat → Nat → Int64} : am_isF 8 0 (am_rd (am_wd I A J) 69) = true := rfl
theorem wv_69_0 {I A : Nat → Nat → Int32} {J : Nat → Nat → Int64} : am_fld 0 (am_rd (am_wd I A J) 69) = .int (I 69 0) := rfl
theorem wp_69_0 {I A : Nat → Nat → Int32} {J : Nat → Nat → Int64} {x : Int32} : am_wr (am_wd I A J) 69 (am_put 0 (am_rd (am_wd I A J) 69) (.int x)) = am_wd (am_u2 I 69 0 x) A J := am_wd_wr (Nat.le_of_ble_eq_true rfl) rfl
theorem wf_69_1 {I A : Nat → Nat → Int32} {J : Nat → Nat → Int64} : am_isF 8 1 (am_rd (am_wd I A J) 69) = true := rfl
theorem wv_69_1 {I A : Nat → Nat → Int32} {J : Nat → Nat → Int64} : am_fld 1 (am_rd (am_wd I A J) 69) = .int (I 69 1) := rfl
theorem wp_69_1 {I A : Nat → Nat → Int32} {J : Nat → Nat → Int64} {x : Int32} : am_wr (am_wd I A J) 69 (am_put 1 (am_rd (am_wd I A J) 69) (.int x)) = am_wd (am_u2 I 69 1 x) A J := am_wd_wr (Nat.le_of_ble_eq_true rfl) rfl
theorem wf_69_2 {I A : Nat → Nat → Int32} {J : Nat → Nat → Int64} : am_isF 8 2 (am_rd (am_wd I A J) 69) = true := rfl
theorem wv_69_2 {I A : Nat → Nat → Int32} {J : Nat → Nat → Int64} : am_fld 2 (am_rd (am_wd I A J) 69) = .int (I 69 2) := rfl
theorem wp_69_2 {I A : Nat → Nat → Int32} {J : Nat → Nat → Int64} {x : Int32} : am_wr (am_wd I A J) 69 (am_put 2 (am_rd (am_wd I A J) 69) (.int x)) = am_wd (am_u2 I 69 2 x) A J := am_wd_wr (Nat.le_of_ble_eq_true rfl) rfl
theorem wf_69_3 {I A : Nat → Nat → Int32} {J : Nat → Nat → Int64} : am_isF 8 3 (am_rd (am_wd I A J) 69) = true := rfl
theorem wv_69_3 {I A : Nat → Nat → Int32} {J : Nat → Nat → Int64} : am_fld 3 (am_rd (am_wd I A J) 69) = .int (I 69 3) := rfl
theorem wp_69_3 {I A : Nat → Nat → Int32} {J : Nat → Nat → Int64} {x : Int32} : am_wr (am_wd I A J) 69 (am_put 3 (am_rd (am_wd I A J) 69) (.int x)) = am_wd (am_u2 I 69 3 x) A J := am_wd_wr (Nat.le_of_ble_eq_true rfl) rfl
theorem wf_69_4 {I A : Nat → Nat → Int32} {J : Nat → Nat → Int64} : am_isF 8 4 (am_rd (am_wd I A J) 69) = true := rfl
theorem wv_69_4 {I A : Nat → Nat → Int32} {J : Nat → Nat → Int64} : am_fld 4 (am_rd (am_wd I A J) 69) = .ref 70 := rfl
theorem wr_70 {I A : Nat → Nat → Int32} {J : Nat → Nat → Int64} : am_rd (am_wd I A J) 70 = .inl (1, 60, .inr (.inl (J 70))) := rfl
theorem wi_70 {I A : Nat → Nat → Int32} {J : Nat → Nat → Int64} {i : Int32} : am_isJ 1 (am_rd (am_wd I A J) 70) i = am_in i 60 := rfl
theorem wg_70 {I A : Nat → Nat → Int32} {J : Nat → Nat → Int64} {i : Int32} : am_geJ (am_rd (am_wd I A J) 70) i = J 70 i.toNatClampNeg := rfl
theorem ws_70 {I A : Nat → Nat → Int32} {J : Nat → Nat → Int64} {i : Int32} {x : Int64} : am_wr (am_wd I A J) 70 (am_seJ (am_rd (am_wd I A J) 70) i x) = am_wd I A (am_u J 70 (vp_updL (J 70) i.toNatClampNeg x)) := am_wd_wr (Nat.le_of_ble_eq_true rfl) rfl
theorem ww_70 {I A : Nat → Nat → Int32} {J : Nat → Nat → Int64} {g : Nat → Int64} : am_wr (am_wd I A J) 70 (.inl (1, 60, .inr (.inl g))) = am_wd I A (am_u J 70 g) := am_wd_wr (Nat.le_of_ble_eq_true rfl) rfl
theorem wl_70 {I A : Nat → Nat → Int32} {J : Nat → Nat → Int64} : am_isL (am_rd (am_wd I A J) 70) = true := rfl
theorem wn_70 {I A : Nat → Nat → Int32} {J : Nat → Nat → Int64} : am_len (am_rd (am_wd I A J) 70) = 60 := rfl
theorem wr_71 {I A : Nat → Nat → Int32} {J : Nat → Nat → Int64} : am_rd (am_wd I A J) 71 = .inr (8, [.int (I 71 0), .int (I 71 1), .int (I 71 2), .int (I 71 3), .ref 72]) := rfl
theorem wo_71 {I A : Nat → Nat → Int32} {J : Nat → Nat → Int64} : am_isO 8 (am_rd (am_wd I A J) 71) = true := rfl
theorem wf_71_0 {I A : Nat → Nat → Int32} {J : Nat → Nat → Int64} : am_isF 8 0 (am_rd (am_wd I A J) 71) = true := rfl
theorem wv_71_0 {I A : Nat → Nat → Int32} {J : Nat → Nat → Int64} : am_fld 0 (am_rd (am_wd I A J) 71) = .int (I 71 0) := rfl
theorem wp_71_0 {I A : Nat → Nat → Int32} {J : Nat → Nat → Int64} {x : Int32} : am_wr (am_wd I A J) 71 (am_put 0 (am_rd (am_wd I A J) 71) (.int x)) = am_wd (am_u2 I 71 0 x) A J := am_wd_wr (Nat.le_of_ble_eq_true rfl) rfl
theorem wf_71_1 {I A : Nat → Nat → Int32} {J : Nat → Nat → Int64} : am_isF 8 1 (am_rd (am_wd I A J) 71) = true := rfl
theorem wv_71_1 {I A : Nat → Nat → Int32} {J : Nat → Nat → Int64} : am_fld 1 (am_rd (am_wd I A J) 71) = .int (I 71 1) := rfl
theorem wp_71_1 {I A : Nat → Nat → Int32} {J : Nat → Nat → Int64} {x : Int32} : am_wr (am_wd I A J) 71 (am_put 1 (am_rd (am_wd I A J) 71) (.int x)) = am_wd (am_u2 I 71 1 x) A J := am_wd_wr (Nat.le_of_ble_eq_true rfl) rfl
theorem wf_71_2 {I A : Nat → Nat → Int32} {J : Nat → Nat → Int64} : am_isF 8 2 (am_rd (am_wd I A J) 71) = true := rfl
theorem wv_71_2 {I A : Nat → Nat → Int32} {J : Nat → Nat → Int64} : am_fld 2 (am_rd (am_wd I A J) 71) = .int (I 71 2) := rfl
theorem wp_71_2 {I A : Nat → Nat → Int32} {J : Nat → Nat → Int64} {x : Int32} : am_wr (am_wd I A J) 71 (am_put 2 (am_rd (am_wd I A J) 71) (.int x)) = am_wd (am_u2 I 71 2 x) A J := am_wd_wr (Nat.le_of_ble_eq_true rfl) rfl
theorem wf_71_3 {I A : Nat → Nat → Int32} {J : Nat → Nat → Int64} : am_isF 8 3 (am_rd (am_wd I A J) 71) = true := rfl
theorem wv_71_3 {I A : Nat → Nat → Int32} {J : Nat → Nat → Int64} : am_fld 3 (am_rd (am_wd I A J) 71) = .int (I 71 3) := rfl
theorem wp_71_3 {I A : Nat → Nat → Int32} {J : Nat → Nat → Int64} {x : Int32} : am_wr (am_wd I A J) 71 (am_put 3 (am_rd (am_wd I A J) 71) (.int x)) = am_wd (am_u2 I 71 3 x) A J := am_wd_wr (Nat.le_of_ble_eq_true rfl) rfl
theorem wf_71_4 {I A : Nat → Nat → Int32} {J : Nat → Nat → Int64} : am_isF 8 4 (am_rd (am_wd I A J) 71) = true := rfl
theorem wv_71_4 {I A : Nat → Nat → Int32} {J : Nat → Nat → Int64} : am_fld 4 (am_rd (am_wd I A J) 71) = .ref 72 := rfl
theorem wr_72 {I A : Nat → Nat → Int32} {J : Nat → Nat → Int64} : am_rd (am_wd I A J) 72 = .inl (1, 60, .inr (.inl (J 72))) := rfl
theorem wi_72 {I A : Nat → Nat → Int32} {J : Nat → Nat → Int64} {i : Int32} : am_isJ 1 (am_rd (am_wd I A J) 72) i = am_in i 60 := rfl
theorem wg_72 {I A : Nat → Nat → Int32} {J : Nat → Nat → Int64} {i : Int32} : am_geJ (am_rd (am_wd I A J) 72) i = J 72 i.toNatClampNeg := rfl
theorem ws_72 {I A : Nat → Nat → Int32} {J : Nat → Nat → Int64} {i : Int32} {x : Int64} : am_wr (am_wd I A J) 72 (am_seJ (am_rd (am_wd I A J) 72) i x) = am_wd I A (am_u J 72 (vp_updL (J 72) i.toNatClampNeg x)) := am_wd_wr (Nat.le_of_ble_eq_true rfl) rfl
theorem ww_72 {I A : Nat → Nat → Int32} {J : Nat → Nat → Int64} {g : Nat → Int64} : am_wr (am_wd I A J) 72 (.inl (1, 60, .inr (.inl g))) = am_wd I A (am_u J 72 g) := am_wd_wr (Nat.le_of_ble_eq_true rfl) rfl
theorem wl_72 {I A : Nat → Nat → Int32} {J : Nat → Nat → Int64} : am_isL (am_rd (am_wd I A J) 72) = true := rfl
theorem wn_72 {I A : Nat → Nat → Int32} {J : Nat → Nat → Int64} : am_len (am_rd (am_wd I A J) 72) = 60 := rfl
theorem wr_73 {I A : Nat → Nat → Int32} {J : Nat → Nat → Int64} : am_rd (am_wd I A J) 73 = .inr (8, [.int (I 73 0), .int (I 73 1), .int (I 73 2), .int (I 73 3), .ref 74]) := rfl
theorem wo_73 {I A : Nat → Nat → Int32} {J : Nat → Nat → Int64} : am_isO 8 (am_rd (am_wd I A J) 73) = true := rfl
theorem wf_73_0 {I A : Nat → Nat → Int32} {J : Nat → Nat → Int64} : am_isF 8 0 (am_rd (am_wd I A J) 73) = true := rfl
theorem wv_73_0 {I A : Nat → Nat → Int32} {J : Nat → Nat → Int64} : am_fld 0 (am_rd (am_wd I A J) 73) = .int (I 73 0) := rfl
theorem wp_73_0 {I A : Nat → Nat → Int32} {J : Nat → Nat → Int64} {x : Int32} : am_wr (am_wd I A J) 73 (am_put 0 (am_rd (am_wd I A J) 73) (.int x)) = am_wd (am_u2 I 73 0 x) A J := am_wd_wr (Nat.le_of_ble_eq_true rfl) rfl
theorem wf_73_1 {I A : Nat → Nat → Int32} {J : Nat → Nat → Int64} : am_isF 8 1 (am_rd (am_wd I A J) 73) = true := rfl
theorem wv_73_1 {I A : Nat → Nat → Int32} {J : Nat → Nat → Int64} : am_fld 1 (am_rd (am_wd I A J) 73) = .int (I 73 1) := rfl
theorem wp_73_1 {I A : Nat → Nat → Int32} {J : Nat → Nat → Int64} {x : Int32} : am_wr (am_wd I A J) 73 (am_put 1 (am_rd (am_wd I A J) 73) (.int x)) = am_wd (am_u2 I 73 1 x) A J := am_wd_wr (Nat.le_of_ble_eq_true rfl) rfl
theorem wf_73_2 {I A : Nat → Nat → Int32} {J : Nat → Nat → Int64} : am_isF 8 2 (am_rd (am_wd I A J) 73) = true := rfl
theorem wv_73_2 {I A : Nat → Nat → Int32} {J : Nat → Nat → Int64} : am_fld 2 (am_rd (am_wd I A J) 73) = .int (I 73 2) := rfl
theorem wp_73_2 {I A : Nat → Nat → Int32} {J : Nat → Nat → Int64} {x : Int32} : am_wr (am_wd I A J) 73 (am_put 2 (am_rd (am_wd I A J) 73) (.int x)) = am_wd (am_u2 I 73 2 x) A J := am_wd_wr (Nat.le_of_ble_eq_true rfl) rfl
theorem wf_73_3 {I A : Nat → Nat → Int32} {J : Nat → Nat → Int64} : am_isF 8 3 (am_rd (am_wd I A J) 73) = true := rfl
theorem wv_73_3 {I A : Nat → Nat → Int32} {J : Nat → Nat → Int64} : am_fld 3 (am_rd (am_wd I A J) 73) = .int (I 73 3) := rfl
theorem wp_73_3 {I A : Nat → Nat → Int32} {J : Nat → Nat → Int64} {x : Int32} : am_wr (am_wd I A J) 73 (am_put 3 (am_rd (am_wd I A J) 73) (.int x)) = am_wd (am_u2 I 73 3 x) A J := am_wd_wr (Nat.le_of_ble_eq_true rfl) rfl
theorem wf_73_4 {I A : Nat → Nat → Int32} {J : Nat → Nat → Int64} : am_isF 8 4 (am_rd (am_wd I A J) 73) = true := rfl
theorem wv_73_4 {I A : Nat → Nat → Int32} {J : Nat → Nat → Int64} : am_fld 4 (am_rd (am_wd I A J) 73) = .ref 74 := rfl
theorem wr_74 {I A : Nat → Nat → Int32} {J : Nat → Nat → Int64} : am_rd (am_wd I A J) 74 = .inl (1, 60, .inr (.inl (J 74))) := rfl
theorem wi_74 {I A : Nat → Nat → Int32} {J : Nat → Nat → Int64} {i : Int32} : am_isJ 1 (am_rd (am_wd I A J) 74) i = am_in i 60 := rfl
theorem wg_74 {I A : Nat → Nat → Int32} {J : Nat → Nat → Int64} {i : Int32} : am_geJ (am_rd (am_wd I A J) 74) i = J 74 i.toNatClampNeg := rfl
theorem ws_74 {I A : Nat → Nat → Int32} {J : Nat → Nat → Int64} {i : Int32} {x : Int64} : am_wr (am_wd I A J) 74 (am_seJ (am_rd (am_wd I A J) 74) i x) = am_wd I A (am_u J 74 (vp_updL (J 74) i.toNatClampNeg x)) := am_wd_wr (Nat.le_of_ble_eq_true rfl) rfl
theorem ww_74 {I A : Nat → Nat → Int32} {J : Nat → Nat → Int64} {g : Nat → Int64} : am_wr (am_wd I A J) 74 (.inl (1, 60, .inr (.inl g))) = am_wd I A (am_u J 74 g) := am_wd_wr (Nat.le_of_ble_eq_true rfl) rfl
theorem wl_74 {I A : Nat → Nat → Int32} {J : Nat → Nat → Int64} : am_isL (am_rd (am_wd I A J) 74) = true := rfl
theorem wn_74 {I A : Nat → Nat → Int32} {J : Nat → Nat → Int64} : am_len (am_rd (am_wd I A J) 74) = 60 := rfl
theorem wr_75 {I A : Nat → Nat → Int32} {J : Nat → Nat → Int64} : am_rd (am_wd I A J) 75 = .inr (8, [.int (I 75 0), .int (I 75 1), .int (I 75 2), .int (I 75 3), .ref 76]) := rfl
theorem wo_75 {I A : Nat → Nat → Int32} {J : Nat → Nat → Int64} : am_isO 8 (am_rd (am_wd I A J) 75) = true := rfl
theorem wf_75_0 {I A : Nat → Nat → Int32} {J : Nat → Nat → Int64} : am_isF 8 0 (am_rd (am_wd I A J) 75) = true := rfl
theorem wv_75_0 {I A : Nat → Nat → Int32} {J : Nat → Nat → Int64} : am_fld 0 (am_rd (am_wd I A J) 75) = .int (I 75 0) := rfl
theorem wp_75_0 {I A : Nat → Nat → Int32} {J : Nat → Nat → Int64} {x : Int32} : am_wr (am_wd I A J) 75 (am_put 0 (am_rd (am_wd I A J) 75) (.int x)) = am_wd (am_u2 I 75 0 x) A J := am_wd_wr (Nat.le_of_ble_eq_true rfl) rfl
theorem wf_75_1 {I A : Nat → Nat → Int32} {J : Nat → Nat → Int64} : am_isF 8 1 (am_rd (am_wd I A J) 75) = true := rfl
theorem wv_75_1 {I A : Nat → Nat → Int32} {J : Nat → Nat → Int64} : am_fld 1 (am_rd (am_wd I A J) 75) = .int (I 75 1) := rfl
theorem wp_75_1 {I A : Nat → Nat → Int32} {J : Nat → Nat → Int64} {x : Int32} : am_wr (am_wd I A J) 75 (am_put 1 (am_rd (am_wd I A J) 75) (.int x)) = am_wd (am_u2 I 75 1 x) A J := am_wd_wr (Nat.le_of_ble_eq_true rfl) rfl
theorem wf_75_2 {I A : Nat → Nat → Int32} {J : Nat → Nat → Int64} : am_isF 8 2 (am_rd (am_wd I A J) 75) = true := rfl
theorem wv_75_2 {I A : Nat → Nat → Int32} {J : Nat → Nat → Int64} : am_fld 2 (am_rd (am_wd I A J) 75) = .int (I 75 2) := rfl
theorem wp_75_2 {I A : Nat → Nat → Int32} {J : Nat → Nat → Int64} {x : Int32} : am_wr (am_wd I A J) 75 (am_put 2 (am_rd (am_wd I A J) 75) (.int x)) = am_wd (am_u2 I 75 2 x) A J := am_wd_wr (Nat.le_of_ble_eq_true rfl) rfl
theorem wf_75_3 {I A : Nat → Nat → Int32} {J : Nat → Nat → Int64} : am_isF 8 3 (am_rd (am_wd I A J) 75) = true := rfl
theorem wv_75_3 {I A : Nat → Nat → Int32} {J : Nat → Nat → Int64} : am_fld 3 (am_rd (am_wd I A J) 75) = .int (I 75 3) := rfl
theorem wp_75_3 {I A : Nat → Nat → Int32} {J : Nat → Nat → Int64} {x : Int32} : am_wr (am_wd I A J) 75 (am_put 3 (am_rd (am_wd I A J) 75) (.int x)) = am_wd (am_u2 I 75 3 x) A J := am_wd_wr (Nat.le_of_ble_eq_true rfl) rfl
theorem wf_75_4 {I A : Nat → Nat → Int32} {J : Nat → Nat → Int64} : am_isF 8 4 (am_rd (am_wd I A J) 75) = true := rfl
theorem wv_75_4 {I A : Nat → Nat → Int32} {J : Nat → Nat → Int64} : am_fld 4 (am_rd (am_wd I A J) 75) = .ref 76 := rfl
theorem wr_76 {I A : Nat → Nat → Int32} {J : Nat → Nat → Int64} : am_rd (am_wd I A J) 76 = .inl (1, 60, .inr (.inl (J 76))) := rfl
theorem wi_76 {I A : Nat → Nat → Int32} {J : Nat → Nat → Int64} {i : Int32} : am_isJ 1 (am_rd (am_wd I A J) 76) i = am_in i 60 := rfl
theorem wg_76 {I A : Nat → Nat → Int32} {J : Nat → Nat → Int64} {i : Int32} : am_geJ (am_rd (am_wd I A J) 76) i = J 76 i.toNatClampNeg := rfl
theorem ws_76 {I A : Nat → Nat → Int32} {J : Nat → Nat → Int64} {i : Int32} {x : Int64} : am_wr (am_wd I A J) 76 (am_seJ (am_rd (am_wd I A J) 76) i x) = am_wd I A (am_u J 76 (vp_updL (J 76) i.toNatClampNeg x)) := am_wd_wr (Nat.le_of_ble_eq_true rfl) rfl
theorem ww_76 {I A : Nat → Nat → Int32} {J : Nat → Nat → Int64} {g : Nat → Int64} : am_wr (am_wd I A J) 76 (.inl (1, 60, .inr (.inl g))) = am_wd I A (am_u J 76 g) := am_wd_wr (Nat.le_of_ble_eq_true rfl) rfl
theorem wl_76 {I A : Nat → Nat → Int32} {J : Nat → Nat → Int64} : am_isL (am_rd (am_wd I A J) 76) = true := rfl
theorem wn_76 {I A : Nat → Nat → Int32} {J : Nat → Nat → Int64} : am_len (am_rd (am_wd I A J) 76) = 60 := rfl
theorem wr_77 {I A : Nat → Nat → Int32} {J : Nat → Nat → Int64} : am_rd (am_wd I A J) 77 = .inr (8, [.int (I 77 0), .int (I 77 1), .int (I 77 2), .int (I 77 3), .ref 78]) := rfl
theorem wo_77 {I A : Nat → Nat → Int32} {J : Nat → Nat → Int64} : am_isO 8 (am_rd (am_wd I A J) 77) = true := rfl
theorem wf_77_0 {I A : Nat → Nat → Int32} {J : Nat → Nat → Int64} : am_isF 8 0 (am_rd (am_wd I A J) 77) = true := rfl
theorem wv_77_0 {I A : Nat → Nat → Int32} {J : Nat → Nat → Int64} : am_fld 0 (am_rd (am_wd I A J) 77) = .int (I 77 0) := rfl
theorem wp_77_0 {I A : Nat → Nat → Int32} {J : Nat → Nat → Int64} {x : Int32} : am_wr (am_wd I A J) 77 (am_put 0 (am_rd (am_wd I A J) 77) (.int x)) = am_wd (am_u2 I 77 0 x) A J := am_wd_wr (Nat.le_of_ble_eq_true rfl) rfl
theorem wf_77_1 {I A : Nat → Nat → Int32} {J : Nat → Nat → Int64} : am_isF 8 1 (am_rd (am_wd I A J) 77) = true := rfl
theorem wv_77_1 {I A : Nat → Nat → Int32} {J : Nat → Nat → Int64} : am_fld 1 (am_rd (am_wd I A J) 77) = .int (I 77 1) := rfl
theorem wp_77_1 {I A : Nat → Nat → Int32} {J : Nat → Nat → Int64} {x : Int32} : am_wr (am_wd I A J) 77 (am_put 1 (am_rd (am_wd I A J) 77) (.int x)) = am_wd (am_u2 I 77 1 x) A J := am_wd_wr (Nat.le_of_ble_eq_true rfl) rfl
theorem wf_77_2 {I A : Nat → Nat → Int32} {J : Nat → Nat → Int64} : am_isF 8 2 (am_rd (am_wd I A J) 77) = true := rfl
theorem wv_77_2 {I A : Nat → Nat → Int32} {J : Nat → Nat → Int64} : am_fld 2 (am_rd (am_wd I A J) 77) = .int (I 77 2) := rfl
theorem wp_77_2 {I A : Nat → Nat → Int32} {J : Nat → Nat → Int64} {x : Int32} : am_wr (am_wd I A J) 77 (am_put 2 (am_rd (am_wd I A J) 77) (.int x)) = am_wd (am_u2 I 77 2 x) A J := am_wd_wr (Nat.le_of_ble_eq_true rfl) rfl
theorem wf_77_3 {I A : Nat → Nat → Int32} {J : Nat → Nat → Int64} : am_isF 8 3 (am_rd (am_wd I A J) 77) = true := rfl
theorem wv_77_3 {I A : Nat → Nat → Int32} {J : Nat → Nat → Int64} : am_fld 3 (am_rd (am_wd I A J) 77) = .int (I 77 3) := rfl
theorem wp_77_3 {I A : Nat → Nat → Int32} {J : Nat → Nat → Int64} {x : Int32} : am_wr (am_wd I A J) 77 (am_put 3 (am_rd (am_wd I A J) 77) (.int x)) = am_wd (am_u2 I 77 3 x) A J := am_wd_wr (Nat.le_of_ble_eq_true rfl) rfl
theorem wf_77_4 {I A : Nat → Nat → Int32} {J : Nat → Nat → Int64} : am_isF 8 4 (am_rd (am_wd I A J) 77) = true := rfl
theorem wv_77_4 {I A : Nat → Nat → Int32} {J : Nat → Nat → Int64} : am_fld 4 (am_rd (am_wd I A J) 77) = .ref 78 := rfl
theorem wr_78 {I A : Nat → Nat → Int32} {J : Nat → Nat → Int64} : am_rd (am_wd I A J) 78 = .inl (1, 60, .inr (.inl (J 78))) := rfl
theorem wi_78 {I A : Nat → Nat → Int32} {J : Nat → Nat → Int64} {i : Int32} : am_isJ 1 (am_rd (am_wd I A J) 78) i = am_in i 60 := rfl
theorem wg_78 {I A : Nat → Nat → Int32} {J : Nat → Nat → Int64} {i : Int32} : am_geJ (am_rd (am_wd I A J) 78) i = J 78 i.toNatClampNeg := rfl
theorem ws_78 {I A : Nat → Nat → Int32} {J : Nat → Nat → Int64} {i : Int32} {x : Int64} : am_wr (am_wd I A J) 78 (am_seJ (am_rd (am_wd I A J) 78) i x) = am_wd I A (am_u J 78 (vp_updL (J 78) i.toNatClampNeg x)) := am_wd_wr (Nat.le_of_ble_eq_true rfl) rfl
theorem ww_78 {I A : Nat → Nat → Int32} {J : Nat → Nat → Int64} {g : Nat → Int64} : am_wr (am_wd I A J) 78 (.inl (1, 60, .inr (.inl g))) = am_wd I A (am_u J 78 g) := am_wd_wr (Nat.le_of_ble_eq_true rfl) rfl
theorem wl_78 {I A : Nat → Nat → Int32} {J : Nat → Nat → Int64} : am_isL (am_rd (am_wd I A J) 78) = true := rfl
theorem wn_78 {I A : Nat → Nat → Int32} {J : Nat → Nat → Int64} : am_len (am_rd (am_wd I A J) 78) = 60 := rfl
theorem wr_79 {I A : Nat → Nat → Int32} {J : Nat → Nat → Int64} : am_rd (am_wd I A J) 79 = .inr (8, [.int (I 79 0), .int (I 79 1), .int (I 79 2), .int (I 79 3), .ref 80]) := rfl
theorem wo_79 {I A : Nat → Nat → Int32} {J : Nat → Nat → Int64} : am_isO 8 (am_rd (am_wd I A J) 79) = true := rfl
theorem wf_79_0 {I A : Nat → Nat → Int32} {J : Nat → Nat → Int64} : am_isF 8 0 (am_rd (am_wd I A J) 79) = true := rfl
theorem wv_79_0 {I A : Nat → Nat → Int32} {J : Nat → Nat → Int64} : am_fld 0 (am_rd (am_wd I A J) 79) = .int (I 79 0) := rfl
theorem wp_79_0 {I A : Nat → Nat → Int32} {J : Nat → Nat → Int64} {x : Int32} : am_wr (am_wd I A J) 79 (am_put 0 (am_rd (am_wd I A J) 79) (.int x)) = am_wd (am_u2 I 79 0 x) A J := am_wd_wr (Nat.le_of_ble_eq_true rfl) rfl
theorem wf_79_1 {I A : Nat → Nat → Int32} {J : Nat → Nat → Int64} : am_isF 8 1 (am_rd (am_wd I A J) 79) = true := rfl
theorem wv_79_1 {I A : Nat → Nat → Int32} {J : Nat → Nat → Int64} : am_fld 1 (am_rd (am_wd I A J) 79) = .int (I 79 1) := rfl
theorem wp_79_1 {I A : Nat → Nat → Int32} {J : Nat → Nat → Int64} {x : Int32} : am_wr (am_wd I A J) 79 (am_put 1 (am_rd (am_wd I A J) 79) (.int x)) = am_wd (am_u2 I 79 1 x) A J := am_wd_wr (Nat.le_of_ble_eq_true rfl) rfl
theorem wf_79_2 {I A : Nat → Nat → Int32} {J : Nat → Nat → Int64} : am_isF 8 2 (am_rd (am_wd I A J) 79) = true := rfl
theorem wv_79_2 {I A : Nat → Nat → Int32} {J : Nat → Nat → Int64} : am_fld 2 (am_rd (am_wd I A J) 79) = .int (I 79 2) := rfl
theorem wp_79_2 {I A : Nat → Nat → Int32} {J : Nat → Nat → Int64} {x : Int32} : am_wr (am_wd I A J) 79 (am_put 2 (am_rd (am_wd I A J) 79) (.int x)) = am_wd (am_u2 I 79 2 x) A J := am_wd_wr (Nat.le_of_ble_eq_true rfl) rfl
theorem wf_79_3 {I A : Nat → Nat → Int32} {J : Nat → Nat → Int64} : am_isF 8 3 (am_rd (am_wd I A J) 79) = true := rfl
theorem wv_79_3 {I A : Nat → Nat → Int32} {J : Nat → Nat → Int64} : am_fld 3 (am_rd (am_wd I A J) 79) = .int (I 79 3) := rfl
theorem wp_79_3 {I A : Nat → Nat → Int32} {J : Nat → Nat → Int64} {x : Int32} : am_wr (am_wd I A J) 79 (am_put 3 (am_rd (am_wd I A J) 79) (.int x)) = am_wd (am_u2 I 79 3 x) A J := am_wd_wr (Nat.le_of_ble_eq_true rfl) rfl
theorem wf_79_4 {I A : Nat → Nat → Int32} {J : Nat → Nat → Int64} : am_isF 8 4 (am_rd (am_wd I A J) 79) = true := rfl
theorem wv_79_4 {I A : Nat → Nat → Int32} {J : Nat → Nat → Int64} : am_fld 4 (am_rd (am_wd I A J) 79) = .ref 80 := rfl
theorem wr_80 {I A : Nat → Nat → Int32} {J : Nat → Nat → Int64} : am_rd (am_wd I A J) 80 = .inl (1, 60, .inr (.inl (J 80))) := rfl
theorem wi_80 {I A : Nat → Nat → Int32} {J : Nat → Nat → Int64} {i : Int32} : am_isJ 1 (am_rd (am_wd I A J) 80) i = am_in i 60 := rfl
theorem wg_80 {I A : Nat → Nat → Int32} {J : Nat → Nat → Int64} {i : Int32} : am_geJ (am_rd (am_wd I A J) 80) i = J 80 i.toNatClampNeg := rfl
theorem ws_80 {I A : Nat → Nat → Int32} {J : Nat → Nat → Int64} {i : Int32} {x : Int64} : am_wr (am_wd I A J) 80 (am_seJ (am_rd (am_wd I A J) 80) i x) = am_wd I A (am_u J 80 (vp_updL (J 80) i.toNatClampNeg x)) := am_wd_wr (Nat.le_of_ble_eq_true rfl) rfl
theorem ww_80 {I A : Nat → Nat → Int32} {J : Nat → Nat → Int64} {g : Nat → Int64} : am_wr (am_wd I A J) 80 (.inl (1, 60, .inr (.inl g))) = am_wd I A (am_u J 80 g) := am_wd_wr (Nat.le_of_ble_eq_true rfl) rfl
theorem wl_80 {I A : Nat → Nat → Int32} {J : Nat → Nat → Int64} : am_isL (am_rd (am_wd I A J) 80) = true := rfl
theorem wn_80 {I A : Nat → Nat → Int32} {J : Nat → Nat → Int64} : am_len (am_rd (am_wd I A J) 80) = 60 := rfl
theorem wr_81 {I A : Nat → Nat → Int32} {J : Nat → Nat → Int64} : am_rd (am_wd I A J) 81 = .inr (11, [.ref 82, .int (I 81 1), .int (I 81 2), .ref 83, .ref 84, .ref 85, .int (I 81 6), .int (I 81 7), .ref 86, .int (I 81 9), .ref 87, .int (I 81 11), .int (I 81 12), .ref 88, .int (I 81 14), .int (I 81 15), .int (I 81 16), .int (I 81 17), .ref 89, .ref 90, .ref 91, .ref 92, .ref 93, .ref 94, .ref 95, .ref 96, .ref 97, .ref 98, .ref 99, .ref 100, .ref 101, .ref 102, .ref 103, .int (I 81 33), .ref 104, .int (I 81 35), .ref 105, .int (I 81 37), .ref 106, .ref 107, .ref 108, .ref 109, .int (I 81 42), .int (I 81 43), .int (I 81 44), .ref 110, .ref 111, .ref 112, .int (I 81 48), .ref 113, .int (I 81 50)]) := rfl
theorem wo_81 {I A : Nat → Nat → Int32} {J : Nat → Nat → Int64} : am_isO 11 (am_rd (am_wd I A J) 81) = true := rfl
theorem wf_81_0 {I A : Nat → Nat → Int32} {J : Nat → Nat → Int64} : am_isF 11 0 (am_rd (am_wd I A J) 81) = true := rfl
theorem wv_81_0 {I A : Nat → Nat → Int32} {J : Nat → Nat → Int64} : am_fld 0 (am_rd (am_wd I A J) 81) = .ref 82 := rfl
theorem wf_81_1 {I A : Nat → Nat → Int32} {J : Nat → Nat → Int64} : am_isF 11 1 (am_rd (am_wd I A J) 81) = true := rfl
theorem wv_81_1 {I A : Nat → Nat → Int32} {J : Nat → Nat → Int64} : am_fld 1 (am_rd (am_wd I A J) 81) = .int (I 81 1) := rfl
theorem wp_81_1 {I A : Nat → Nat → Int32} {J : Nat → Nat → Int64} {x : Int32} : am_wr (am_wd I A J) 81 (am_put 1 (am_rd (am_wd I A J) 81) (.int x)) = am_wd (am_u2 I 81 1 x) A J := am_wd_wr (Nat.le_of_ble_eq_true rfl) rfl
theorem wf_81_2 {I A : Nat → Nat → Int32} {J : Nat → Nat → Int64} : am_isF 11 2 (am_rd (am_wd I A J) 81) = true := rfl
theorem wv_81_2 {I A : Nat → Nat → Int32} {J : Nat → Nat → Int64} : am_fld 2 (am_rd (am_wd I A J) 81) = .int (I 81 2) := rfl
theorem wp_81_2 {I A : Nat → Nat → Int32} {J : Nat → Nat → Int64} {x : Int32} : am_wr (am_wd I A J) 81 (am_put 2 (am_rd (am_wd I A J) 81) (.int x)) = am_wd (am_u2 I 81 2 x) A J := am_wd_wr (Nat.le_of_ble_eq_true rfl) rfl
theorem wf_81_3 {I A : Nat → Nat → Int32} {J : Nat → Nat → Int64} : am_isF 11 3 (am_rd (am_wd I A J) 81) = true := rfl
theorem wv_81_3 {I A : Nat → Nat → Int32} {J : Nat → Nat → Int64} : am_fld 3 (am_rd (am_wd I A J) 81) = .ref 83 := rfl
theorem wf_81_4 {I A : Nat → Nat → Int32} {J : Nat → Nat → Int64} : am_isF 11 4 (am_rd (am_wd I A J) 81) = true := rfl
theorem wv_81_4 {I A : Nat → Nat → Int32} {J : Nat → Nat → Int64} : am_fld 4 (am_rd (am_wd I A J) 81) = .ref 84 := rfl
theorem wf_81_5 {I A : Nat → Nat → Int32} {J : Nat → Nat → Int64} : am_isF 11 5 (am_rd (am_wd I A J) 81) = true := rfl
theorem wv_81_5 {I A : Nat → Nat → Int32} {J : Nat → Nat → Int64} : am_fld 5 (am_rd (am_wd I A J) 81) = .ref 85 := rfl
theorem wf_81_6 {I A : Nat → Nat → Int32} {J : Nat → Nat → Int64} : am_isF 11 6 (am_rd (am_wd I A J) 81) = true := rfl
theorem wv_81_6 {I A : Nat → Nat → Int32} {J : Nat → Nat → Int64} : am_fld 6 (am_rd (am_wd I A J) 81) = .int (I 81 6) := rfl
theorem wp_81_6 {I A : Nat → Nat → Int32} {J : Nat → Nat → Int64} {x : Int32} : am_wr (am_wd I A J) 81 (am_put 6 (am_rd (am_wd I A J) 81) (.int x)) = am_wd (am_u2 I 81 6 x) A J := am_wd_wr (Nat.le_of_ble_eq_true rfl) rfl
theorem wf_81_7 {I A : Nat → Nat → Int32} {J : Nat → Nat → Int64} : am_isF 11 7 (am_rd (am_wd I A J) 81) = true := rfl
theorem wv_81_7 {I A : Nat → Nat → Int32} {J : Nat → Nat → Int64} : am_fld 7 (am_rd (am_wd I A J) 81) = .int (I 81 7) := rfl
theorem wp_81_7 {I A : Nat → Nat → Int32} {J : Nat → Nat → Int64} {x : Int32} : am_wr (am_wd I A J) 81 (am_put 7 (am_rd (am_wd I A J) 81) (.int x)) = am_wd (am_u2 I 81 7 x) A J := am_wd_wr (Nat.le_of_ble_eq_true rfl) rfl
theorem wf_81_8 {I A : Nat → Nat → Int32} {J : Nat → Nat → Int64} : am_isF 11 8 (am_rd (am_wd I A J) 81) = true := rfl
theorem wv_81_8 {I A : Nat → Nat → Int32} {J : Nat → Nat → Int64} : am_fld 8 (am_rd (am_wd I A J) 81) = .ref 86 := rfl
theorem wf_81_9 {I A : Nat → Nat → Int32} {J : Nat → Nat → Int64} : am_isF 11 9 (am_rd (am_wd I A J) 81) = true := rfl
theorem wv_81_9 {I A : Nat → Nat → Int32} {J : Nat → Nat → Int64} : am_fld 9 (am_rd (am_wd I A J) 81) = .int (I 81 9) := rfl
theorem wp_81_9 {I A : Nat → Nat → Int32} {J : Nat → Nat → Int64} {x : Int32} : am_wr (am_wd I A J) 81 (am_put 9 (am_rd (am_wd I A J) 81) (.int x)) = am_wd (am_u2 I 81 9 x) A J := am_wd_wr (Nat.le_of_ble_eq_true rfl) rfl
theorem wf_81_10 {I A : Nat → Nat → Int32} {J : Nat → Nat → Int64} : am_isF 11 10 (am_rd (am_wd I A J) 81) = true := rfl
theorem wv_81_10 {I A : Nat → Nat → Int32} {J : Nat → Nat → Int64} : am_fld 10 (am_rd (am_wd I A J) 81) = .ref 87 := rfl
theorem wf_81_11 {I A : Nat → Nat → Int32} {J : Nat → Nat → Int64} : am_isF 11 11 (am_rd (am_wd I A J) 81) = true := rfl
theorem wv_81_11 {I A : Nat → Nat → Int32} {J : Nat → Nat → Int64} : am_fld 11 (am_rd (am_wd I A J) 81) = .int (I 81 11) := rfl
theorem wp_81_11 {I A : Nat → Nat → Int32} {J : Nat → Nat → Int64} {x : Int32} : am_wr (am_wd I A J) 81 (am_put 11 (am_rd (am_wd I A J) 81) (.int x)) = am_wd (am_u2 I 81 11 x) A J := am_wd_wr (Nat.le_of_ble_eq_true rfl) rfl
theorem wf_81_12 {I A : Nat → Nat → Int32} {J : Nat → Nat → Int64} : am_isF 11 12 (am_rd (am_wd I A J) 81) = true := rfl
theorem wv_81_12 {I A : Nat → Nat → Int32} {J : Nat → Nat → Int64} : am_fld 12 (am_rd (am_wd I A J) 81) = .int (I 81 12) := rfl
theorem wp_81_12 {I A : Nat → Nat → Int32} {J : Nat → Nat → Int64} {x : Int32} : am_wr (am_wd I A J) 81 (am_put 12 (am_rd (am_wd I A J) 81) (.int x)) = am_wd (am_u2 I 81 12 x) A J := am_wd_wr (Nat.le_of_ble_eq_true rfl) rfl
theorem wf_81_13 {I A : Nat → Nat → Int32} {J : Nat → Nat → Int64} : am_isF 11 13 (am_rd (am_wd I A J) 81) = true := rfl
theorem wv_81_13 {I A : Nat → Nat → Int32} {J : Nat → Nat → Int64} : am_fld 13 (am_rd (am_wd I A J) 81) = .ref 88 := rfl
theorem wf_81_14 {I A : Nat → Nat → Int32} {J : Nat → Nat → Int64} : am_isF 11 14 (am_rd (am_wd I A J) 81) = true := rfl
theorem wv_81_14 {I A : Nat → Nat → Int32} {J : Nat → Nat → Int64} : am_fld 14 (am_rd (am_wd I A J) 81) = .int (I 81 14) := rfl
theorem wp_81_14 {I A : Nat → Nat → Int32} {J : Nat → Nat → Int64} {x : Int32} : am_wr (am_wd I A J) 81 (am_put 14 (am_rd (am_wd I A J) 81) (.int x)) = am_wd (am_u2 I 81 14 x) A J := am_wd_wr (Nat.le_of_ble_eq_true rfl) rfl
theorem wf_81_15 {I A : Nat → Nat → Int32} {J : Nat → Nat → Int64} : am_isF 11 15 (am_rd (am_wd I A J) 81) = true := rfl
theorem wv_81_15 {I A : Nat → Nat → Int32} {J : Nat → Nat → Int64} : am_fld 15 (am_rd (am_wd I A J) 81) = .int (I 81 15) := rfl
theorem wp_81_15 {I A : Nat → Nat → Int32} {J : Nat → Nat → Int64} {x : Int32} : am_wr (am_wd I A J) 81 (am_put 15 (am_rd (am_wd I A J) 81) (.int x)) = am_wd (am_u2 I 81 15 x) A J := am_wd_wr (Nat.le_of_ble_eq_true rfl) rfl
theorem wf_81_16 {I A : Nat → Nat → Int32} {J : Nat → Nat → Int64} : am_isF 11 16 (am_rd (am_wd I A J) 81) = true := rfl
theorem wv_81_16 {I A : Nat → Nat → Int32} {J : Nat → Nat → Int64} : am_fld 16 (am_rd (am_wd I A J) 81) = .int (I 81 16) := rfl
theorem wp_81_16 {I A : Nat → Nat → Int32} {J : Nat → Nat → Int64} {x : Int32} : am_wr (am_wd I A J) 81 (am_put 16 (am_rd (am_wd I A J) 81) (.int x)) = am_wd (am_u2 I 81 16 x) A J := am_wd_wr (Nat.le_of_ble_eq_true rfl) rfl
theorem wf_81_17 {I A : Nat → Nat → Int32} {J : Nat → Nat → Int64} : am_isF 11 17 (am_rd (am_wd I A J) 81) = true := rfl
theorem wv_81_17 {I A : Nat → Nat → Int32} {J : Nat → Nat → Int64} : am_fld 17 (am_rd (am_wd I A J) 81) = .int (I 81 17) := rfl
theorem wp_81_17 {I A : Nat → Nat → Int32} {J : Nat → Nat → Int64} {x : Int32} : am_wr (am_wd I A J) 81 (am_put 17 (am_rd (am_wd I A J) 81) (.int x)) = am_wd (am_u2 I 81 17 x) A J := am_wd_wr (Nat.le_of_ble_eq_true rfl) rfl
theorem wf_81_18 {I A : Nat → Nat → Int32} {J : Nat → Nat → Int64} : am_isF 11 18 (am_rd (am_wd I A J) 81) = true := rfl
theorem wv_81_18 {I A : Nat → Nat → Int32} {J : Nat → Nat → Int64} : am_fld 18 (am_rd (am_wd I A J) 81) = .ref 89 := rfl
theorem wf_81_19 {I A : Nat → Nat → Int32} {J : Nat → Nat → Int64} : am_isF 11 19 (am_rd (am_wd I A J) 81) = true := rfl
theorem wv_81_19 {I A : Nat → Nat → Int32} {J : Nat → Nat → Int64} : am_fld 19 (am_rd (am_wd I A J) 81) = .ref 90 := rfl
theorem wf_81_20 {I A : Nat → Nat → Int32} {J : Nat → Nat → Int64} : am_isF 11 20 (am_rd (am_wd I A J) 81) = true := rfl
theorem wv_81_20 {I A : Nat → Nat → Int32} {J : Nat → Nat → Int64} : am_fld 20 (am_rd (am_wd I A J) 81) = .ref 91 := rfl
theorem wf_81_21 {I A : Nat → Nat → Int32} {J : Nat → Nat → Int64} : am_isF 11 21 (am_rd (am_wd I A J) 81) = true := rfl
theorem wv_81_21 {I A : Nat → Nat → Int32} {J : Nat → Nat → Int64} : am_fld 21 (am_rd (am_wd I A J) 81) = .ref 92 := rfl
theorem wf_81_22 {I A : Nat → Nat → Int32} {J : Nat → Nat → Int64} : am_isF 11 22 (am_rd (am_wd I A J) 81) = true := rfl
theorem wv_81_22 {I A : Nat → Nat → Int32} {J : Nat → Nat → Int64} : am_fld 22 (am_rd (am_wd I A J) 81) = .ref 93 := rfl
theorem wf_81_23 {I A : Nat → Nat → Int32} {J : Nat → Nat → Int64} : am_isF 11 23 (am_rd (am_wd I A J) 81) = true := rfl
theorem wv_81_23 {I A : Nat → Nat → Int32} {J : Nat → Nat → Int64} : am_fld 23 (am_rd (am_wd I A J) 81) = .ref 94 := rfl
theorem wf_81_24 {I A : Nat → Nat → Int32} {J : Nat → Nat → Int64} : am_isF 11 24 (am_rd (am_wd I A J) 81) = true := rfl
theorem wv_81_24 {I A : Nat → Nat → Int32} {J : Nat → Nat → Int64} : am_fld 24 (am_rd (am_wd I A J) 81) = .ref 95 := rfl
theorem wf_81_25 {I A : Nat → Nat → Int32} {J : Nat → Nat → Int64} : am_isF 11 25 (am_rd (am_wd I A J) 81) = true := rfl
theorem wv_81_25 {I A : Nat → Nat → Int32} {J : Nat → Nat → Int64} : am_fld 25 (am_rd (am_wd I A J) 81) = .ref 96 := rfl
theorem wf_81_26 {I A : Nat → Nat → Int32} {J : Nat → Nat → Int64} : am_isF 11 26 (am_rd (am_wd I A J) 81) = true := rfl
theorem wv_81_26 {I A : Nat → Nat → Int32} {J : Nat → Nat → Int64} : am_fld 26 (am_rd (am_wd I A J) 81) = .ref 97 := rfl
theorem wf_81_27 {I A : Nat → Nat → Int32} {J : Nat → Nat → Int64} : am_isF 11 27 (am_rd (am_wd I A J) 81) = true := rfl
theorem wv_81_27 {I A : Nat → Nat → Int32} {J : Nat → Nat → Int64} : am_fld 27 (am_rd (am_wd I A J) 81) = .ref 98 := rfl
theorem wf_81_28 {I A : Nat → Nat → Int32} {J : Nat → Nat → Int64} : am_isF 11 28 (am_rd (am_wd I A J) 81) = true := rfl
theorem wv_81_28 {I A : Nat → Nat → Int32} {J : Nat → Nat → Int64} : am_fld 28 (am_rd (am_wd I A J) 81) = .ref 99 := rfl
theorem wf_81_29 {I A : Nat → Nat → Int32} {J : Nat → Nat → Int64} : am_isF 11 29 (am_rd (am_wd I A J) 81) = true := rfl
theorem wv_81_29 {I A : Nat → Nat → Int32} {J : Nat → Nat → Int64} : am_fld 29 (am_rd (am_wd I A J) 81) = .ref 100 := rfl
theorem wf_81_30 {I A : Nat → Nat → Int32} {J : Nat → Nat → Int64} : am_isF 11 30 (am_rd (am_wd I A J) 81) = true := rfl
theorem wv_81_30 {I A : Nat → Nat → Int32} {J : Nat → Nat → Int64} : am_fld 30 (am_rd (am_wd I A J) 81) = .ref 101 := rfl
theorem wf_81_31 {I A : Nat → Nat → Int32} {J : Nat → Nat → Int64} : am_isF 11 31 (am_rd (am_wd I A J) 81) = true := rfl
theorem wv_81_31 {I A : Nat → Nat → Int32} {J : Nat → Nat → Int64} : am_fld 31 (am_rd (am_wd I A J) 81) = .ref 102 := rfl
theorem wf_81_32 {I A : Nat → Nat → Int32} {J : Nat → Nat → Int64} : am_isF 11 32 (am_rd (am_wd I A J) 81) = true := rfl
theorem wv_81_32 {I A : Nat → Nat → Int32} {J : Nat → Nat → Int64} : am_fld 32 (am_rd (am_wd I A J) 81) = .ref 103 := rfl
theorem wf_81_33 {I A : Nat → Nat → Int32} {J : Nat → Nat → Int64} : am_isF 11 33 (am_rd (am_wd I A J) 81) = true := rfl
theorem wv_81_33 {I A : Nat → Nat → Int32} {J : Nat → Nat → Int64} : am_fld 33 (am_rd (am_wd I A J) 81) = .int (I 81 33) := rfl
theorem wp_81_33 {I A : Nat → Nat → Int32} {J : Nat → Nat → Int64} {x : Int32} : am_wr (am_wd I A J) 81 (am_put 33 (am_rd (am_wd I A J) 81) (.int x)) = am_wd (am_u2 I 81 33 x) A J := am_wd_wr (Nat.le_of_ble_eq_true rfl) rfl
theorem wf_81_34 {I A : Nat → Nat → Int32} {J : Nat → Nat → Int64} : am_isF 11 34 (am_rd (am_wd I A J) 81) = true := rfl
theorem wv_81_34 {I A : Nat → Nat → Int32} {J : Nat → Nat → Int64} : am_fld 34 (am_rd (am_wd I A J) 81) = .ref 104 := rfl
theorem wf_81_35 {I A : Nat → Nat → Int32} {J : Nat → Nat → Int64} : am_isF 11 35 (am_rd (am_wd I A J) 81) = true := rfl
theorem wv_81_35 {I A : Nat → Nat → Int32} {J : Nat → Nat → Int64} : am_fld 35 (am_rd (am_wd I A J) 81) = .int (I 81 35) := rfl
theorem wp_81_35 {I A : Nat → Nat → Int32} {J : Nat → Nat → Int64} {x : Int32} : am_wr (am_wd I A J) 81 (am_put 35 (am_rd (am_wd I A J) 81) (.int x)) = am_wd (am_u2 I 81 35 x) A J := am_wd_wr (Nat.le_of_ble_eq_true rfl) rfl
theorem wf_81_36 {I A : Nat → Nat → Int32} {J : Nat → Nat → Int64} : am_isF 11 36 (am_rd (am_wd I A J) 81) = true := rfl
theorem wv_81_36 {I A : Nat → Nat → Int32} {J : Nat → Nat → Int64} : am_fld 36 (am_rd (am_wd I A J) 81) = .ref 105 := rfl
theorem wf_81_37 {I A : Nat → Nat → Int32} {J : Nat → Nat → Int64} : am_isF 11 37 (am_rd (am_wd I A J) 81) = true := rfl
theorem wv_81_37 {I A : Nat → Nat → Int32} {J : Nat → Nat → Int64} : am_fld 37 (am_rd (am_wd I A J) 81) = .int (I 81 37) := rfl
theorem wp_81_37 {I A : Nat → Nat → Int32} {J : Nat → Nat → Int64} {x : Int32} : am_wr (am_wd I A J) 81 (am_put 37 (am_rd (am_wd I A J) 81) (.int x)) = am_wd (am_u2 I 81 37 x) A J := am_wd_wr (Nat.le_of_ble_eq_true rfl) rfl
theorem wf_81_38 {I A : Nat → Nat → Int32} {J : Nat → Nat → Int64} : am_isF 11 38 (am_rd (am_wd I A J) 81) = true := rfl
theorem wv_81_38 {I A : Nat → Nat → Int32} {J : Nat → Nat → Int64} : am_fld 38 (am_rd (am_wd I A J) 81) = .ref 106 := rfl
theorem wf_81_39 {I A : Nat → Nat → Int32} {J : Nat → Nat → Int64} : am_isF 11 39 (am_rd (am_wd I A J) 81) = true := rfl
theorem wv_81_39 {I A : Nat → Nat → Int32} {J : Nat → Nat → Int64} : am_fld 39 (am_rd (am_wd I A J) 81) = .ref 107 := rfl
theorem wf_81_40 {I A : Nat → Nat → Int32} {J : Nat → Nat → Int64} : am_isF 11 40 (am_rd (am_wd I A J) 81) = true := rfl
theorem wv_81_40 {I A : Nat → Nat → Int32} {J : Nat → Nat → Int64} : am_fld 40 (am_rd (am_wd I A J) 81) = .ref 108 := rfl
theorem wf_81_41 {I A : Nat → Nat → Int32} {J : Nat → Nat → Int64} : am_isF 11 41 (am_rd (am_wd I A J) 81) = true := rfl
theorem wv_81_41 {I A : Nat → Nat → Int32} {J : Nat → Nat → Int64} : am_fld 41 (am_rd (am_wd I A J) 81) = .ref 109 := rfl
theorem wf_81_42 {I A : Nat → Nat → Int32} {J : Nat → Nat → Int64} : am_isF 11 42 (am_rd (am_wd I A J) 81) = true := rfl
theorem wv_81_42 {I A : Nat → Nat → Int32} {J : Nat → Nat → Int64} : am_fld 42 (am_rd (am_wd I A J) 81) = .int (I 81 42) := rfl
theorem wp_81_42 {I A : Nat → Nat → Int32} {J : Nat → Nat → Int64} {x : Int32} : am_wr (am_wd I A J) 81 (am_put 42 (am_rd (am_wd I A J) 81) (.int x)) = am_wd (am_u2 I 81 42 x) A J := am_wd_wr (Nat.le_of_ble_eq_true rfl) rfl
theorem wf_81_43 {I A : Nat → Nat → Int32} {J : Nat → Nat → Int64} : am_isF 11 43 (am_rd (am_wd I A J) 81) = true := rfl
theorem wv_81_43 {I A : Nat → Nat → Int32} {J : Nat → Nat → Int64} : am_fld 43 (am_rd (am_wd I A J) 81) = .int (I 81 43) := rfl
theorem wp_81_43 {I A : Nat → Nat → Int32} {J : Nat → Nat → Int64} {x : Int32} : am_wr (am_wd I A J) 81 (am_put 43 (am_rd (am_wd I A J) 81) (.int x)) = am_wd (am_u2 I 81 43 x) A J := am_wd_wr (Nat.le_of_ble_eq_true rfl) rfl
theorem wf_81_44 {I A : Nat → Nat → Int32} {J : Nat → Nat → Int64} : am_isF 11 44 (am_rd (am_wd I A J) 81) = true := rfl
theorem wv_81_44 {I A : Nat → Nat → Int32} {J : Nat → Nat → Int64} : am_fld 44 (am_rd (am_wd I A J) 81) = .int (I 81 44) := rfl
theorem wp_81_44 {I A : Nat → Nat → Int32} {J : Nat → Nat → Int64} {x : Int32} : am_wr (am_wd I A J) 81 (am_put 44 (am_rd (am_wd I A J) 81) (.int x)) = am_wd (am_u2 I 81 44 x) A J := am_wd_wr (Nat.le_of_ble_eq_true rfl) rfl
theorem wf_81_45 {I A : Nat → Nat → Int32} {J : Nat → Nat → Int64} : am_isF 11 45 (am_rd (am_wd I A J) 81) = true := rfl
theorem wv_81_45 {I A : Nat → Nat → Int32} {J : Nat → Nat → Int64} : am_fld 45 (am_rd (am_wd I A J) 81) = .ref 110 := rfl
theorem wf_81_46 {I A : Nat → Nat → Int32} {J : Nat → Nat → Int64} : am_isF 11 46 (am_rd (am_wd I A J) 81) = true := rfl
theorem wv_81_46 {I A : Nat → Nat → Int32} {J : Nat → Nat → Int64} : am_fld 46 (am_rd (am_wd I A J) 81) = .ref 111 := rfl
theorem wf_81_47 {I A : Nat → Nat → Int32} {J : Nat → Nat → Int64} : am_isF 11 47 (am_rd (am_wd I A J) 81) = true := rfl
theorem wv_81_47 {I A : Nat → Nat → Int32} {J : Nat → Nat → Int64} : am_fld 47 (am_rd (am_wd I A J) 81) = .ref 112 := rfl
theorem wf_81_48 {I A : Nat → Nat → Int32} {J : Nat → Nat → Int64} : am_isF 11 48 (am_rd (am_wd I A J) 81) = true := rfl
theorem wv_81_48 {I A : Nat → Nat → Int32} {J : Nat → Nat → Int64} : am_fld 48 (am_rd (am_wd I A J) 81) = .int (I 81 48) := rfl
theorem wp_81_48 {I A : Nat → Nat → Int32} {J : Nat → Nat → Int64} {x : Int32} : am_wr (am_wd I A J) 81 (am_put 48 (am_rd (am_wd I A J) 81) (.int x)) = am_wd (am_u2 I 81 48 x) A J := am_wd_wr (Nat.le_of_ble_eq_true rfl) rfl
theorem wf_81_49 {I A : Nat → Nat → Int32} {J : Nat → Nat → Int64} : am_isF 11 49 (am_rd (am_wd I A J) 81) = true := rfl
theorem wv_81_49 {I A : Nat → Nat → Int32} {J : Nat → Nat → Int64} : am_fld 49 (am_rd (am_wd I A J) 81) = .ref 113 := rfl
theorem wf_81_50 {I A : Nat → Nat → Int32} {J : Nat → Nat → Int64} : am_isF 11 50 (am_rd (am_wd I A J) 81) = true := rfl
theorem wv_81_50 {I A : Nat → Nat → Int32} {J : Nat → Nat → Int64} : am_fld 50 (am_rd (am_wd I A J) 81) = .int (I 81 50) := rfl
theorem wp_81_50 {I A : Nat → Nat → Int32} {J : Nat → Nat → Int64} {x : Int32} : am_wr (am_wd I A J) 81 (am_put 50 (am_rd (am_wd I A J) 81) (.int x)) = am_wd (am_u2 I 81 50 x) A J := am_wd_wr (Nat.le_of_ble_eq_true rfl) rfl
theorem wr_82 {I A : Nat → Nat → Int32} {J : Nat → Nat → Int64} : am_rd (am_wd I A J) 82 = .inl (0, 105, .inl (A 82)) := rfl
theorem wi_82 {I A : Nat → Nat → Int32} {J : Nat → Nat → Int64} {i : Int32} : am_isI 0 (am_rd (am_wd I A J) 82) i = am_in i 105 := rfl
theorem wg_82 {I A : Nat → Nat → Int32} {J : Nat → Nat → Int64} {i : Int32} : am_geI (am_rd (am_wd I A J) 82) i = A 82 i.toNatClampNeg := rfl
theorem ws_82 {I A : Nat → Nat → Int32} {J : Nat → Nat → Int64} {i x : Int32} : am_wr (am_wd I A J) 82 (am_seI (am_rd (am_wd I A J) 82) i x) = am_wd I (am_u A 82 (upd (A 82) i.toNatClampNeg x)) J := am_wd_wr (Nat.le_of_ble_eq_true rfl) rfl
theorem ww_82 {I A : Nat → Nat → Int32} {J : Nat → Nat → Int64} {g : Nat → Int32} : am_wr (am_wd I A J) 82 (.inl (0, 105, .inl g)) = am_wd I (am_u A 82 g) J := am_wd_wr (Nat.le_of_ble_eq_true rfl) rfl
theorem wl_82 {I A : Nat → Nat → Int32} {J : Nat → Nat → Int64} : am_isL (am_rd (am_wd I A J) 82) = true := rfl
theorem wn_82 {I A : Nat → Nat → Int32} {J : Nat → Nat → Int64} : am_len (am_rd (am_wd I A J) 82) = 105 := rfl
theorem wr_83 {I A : Nat → Nat → Int32} {J : Nat → Nat → Int64} : am_rd (am_wd I A J) 83 = .inl (0, 40, .inl (A 83)) := rfl
theorem wi_83 {I A : Nat → Nat → Int32} {J : Nat → Nat → Int64} {i : Int32} : am_isI 0 (am_rd (am_wd I A J) 83) i = am_in i 40 := rfl
theorem wg_83 {I A : Nat → Nat → Int32} {J : Nat → Nat → Int64} {i : Int32} : am_geI (am_rd (am_wd I A J) 83) i = A 83 i.toNatClampNeg := rfl
theorem ws_83 {I A : Nat → Nat → Int32} {J : Nat → Nat → Int64} {i x : Int32} : am_wr (am_wd I A J) 83 (am_seI (am_rd (am_wd I A J) 83) i x) = am_wd I (am_u A 83 (upd (A 83) i.toNatClampNeg x)) J := am_wd_wr (Nat.le_of_ble_eq_true rfl) rfl
theorem ww_83 {I A : Nat → Nat → Int32} {J : Nat → Nat → Int64} {g : Nat → Int32} : am_wr (am_wd I A J) 83 (.inl (0, 40, .inl g)) = am_wd I (am_u A 83 g) J := am_wd_wr (Nat.le_of_ble_eq_true rfl) rfl
theorem wl_83 {I A : Nat → Nat → Int32} {J : Nat → Nat → Int64} : am_isL (am_rd (am_wd I A J) 83) = true := rfl
theorem wn_83 {I A : Nat → Nat → Int32} {J : Nat → Nat → Int64} : am_len (am_rd (am_wd I A J) 83) = 40 := rfl
theorem wr_84 {I A : Nat → Nat → Int32} {J : Nat → Nat → Int64} : am_rd (am_wd I A J) 84 = .inl (0, 40, .inl (A 84)) := rfl
theorem wi_84 {I A : Nat → Nat → Int32} {J : Nat → Nat → Int64} {i : Int32} : am_isI 0 (am_rd (am_wd I A J) 84) i = am_in i 40 := rfl
theorem wg_84 {I A : Nat → Nat → Int32} {J : Nat → Nat → Int64} {i : Int32} : am_geI (am_rd (am_wd I A J) 84) i = A 84 i.toNatClampNeg := rfl
theorem ws_84 {I A : Nat → Nat → Int32} {J : Nat → Nat → Int64} {i x : Int32} : am_wr (am_wd I A J) 84 (am_seI (am_rd (am_wd I A J) 84) i x) = am_wd I (am_u A 84 (upd (A 84) i.toNatClampNeg x)) J := am_wd_wr (Nat.le_of_ble_eq_true rfl) rfl
theorem ww_84 {I A : Nat → Nat → Int32} {J : Nat → Nat → Int64} {g : Nat → Int32} : am_wr (am_wd I A J) 84 (.inl (0, 40, .inl g)) = am_wd I (am_u A 84 g) J := am_wd_wr (Nat.le_of_ble_eq_true rfl) rfl
theorem wl_84 {I A : Nat → Nat → Int32} {J : Nat → Nat → Int64} : am_isL (am_rd (am_wd I A J) 84) = true := rfl
theorem wn_84 {I A : Nat → Nat → Int32} {J : Nat → Nat → Int64} : am_len (am_rd (am_wd I A J) 84) = 40 := rfl
theorem wr_85 {I A : Nat → Nat → Int32} {J : Nat → Nat → Int64} : am_rd (am_wd I A J) 85 = .inl (0, 40, .inl (A 85)) := rfl
theorem wi_85 {I A : Nat → Nat → Int32} {J : Nat → Nat → Int64} {i : Int32} : am_isI 0 (am_rd (am_wd I A J) 85) i = am_in i 40 := rfl
theorem wg_85 {I A : Nat → Nat → Int32} {J : Nat → Nat → Int64} {i : Int32} : am_geI (am_rd (am_wd I A J) 85) i = A 85 i.toNatClampNeg := rfl
theorem ws_85 {I A : Nat → Nat → Int32} {J : Nat → Nat → Int64} {i x : Int32} : am_wr (am_wd I A J) 85 (am_seI (am_rd (am_wd I A J) 85) i x) = am_wd I (am_u A 85 (upd (A 85) i.toNatClampNeg x)) J := am_wd_wr (Nat.le_of_ble_eq_true rfl) rfl
theorem ww_85 {I A : Nat → Nat → Int32} {J : Nat → Nat → Int64} {g : Nat → Int32} : am_wr (am_wd I A J) 85 (.inl (0, 40, .inl g)) = am_wd I (am_u A 85 g) J := am_wd_wr (Nat.le_of_ble_eq_true rfl) rfl
theorem wl_85 {I A : Nat → Nat → Int32} {J : Nat → Nat → Int64} : am_isL (am_rd (am_wd I A J) 85) = true := rfl
theorem wn_85 {I A : Nat → Nat → Int32} {J : Nat → Nat → Int64} : am_len (am_rd (am_wd I A J) 85) = 40 := rfl
theorem wr_86 {I A : Nat → Nat → Int32} {J : Nat → Nat → Int64} : am_rd (am_wd I A J) 86 = .inl (0, 120, .inl (A 86)) := rfl
theorem wi_86 {I A : Nat → Nat → Int32} {J : Nat → Nat → Int64} {i : Int32} : am_isI 0 (am_rd (am_wd I A J) 86) i = am_in i 120 := rfl
theorem wg_86 {I A : Nat → Nat → Int32} {J : Nat → Nat → Int64} {i : Int32} : am_geI (am_rd (am_wd I A J) 86) i = A 86 i.toNatClampNeg := rfl
theorem ws_86 {I A : Nat → Nat → Int32} {J : Nat → Nat → Int64} {i x : Int32} : am_wr (am_wd I A J) 86 (am_seI (am_rd (am_wd I A J) 86) i x) = am_wd I (am_u A 86 (upd (A 86) i.toNatClampNeg x)) J := am_wd_wr (Nat.le_of_ble_eq_true rfl) rfl
theorem ww_86 {I A : Nat → Nat → Int32} {J : Nat → Nat → Int64} {g : Nat → Int32} : am_wr (am_wd I A J) 86 (.inl (0, 120, .inl g)) = am_wd I (am_u A 86 g) J := am_wd_wr (Nat.le_of_ble_eq_true rfl) rfl
theorem wl_86 {I A : Nat → Nat → Int32} {J : Nat → Nat → Int64} : am_isL (am_rd (am_wd I A J) 86) = true := rfl
theorem wn_86 {I A : Nat → Nat → Int32} {J : Nat → Nat → Int64} : am_len (am_rd (am_wd I A J) 86) = 120 := rfl
theorem wr_87 {I A : Nat → Nat → Int32} {J : Nat → Nat → Int64} : am_rd (am_wd I A J) 87 = .inl (0, 120, .inl (A 87)) := rfl
theorem wi_87 {I A : Nat → Nat → Int32} {J : Nat → Nat → Int64} {i : Int32} : am_isI 0 (am_rd (am_wd I A J) 87) i = am_in i 120 := rfl
theorem wg_87 {I A : Nat → Nat → Int32} {J : Nat → Nat → Int64} {i : Int32} : am_geI (am_rd (am_wd I A J) 87) i = A 87 i.toNatClampNeg := rfl
theorem ws_87 {I A : Nat → Nat → Int32} {J : Nat → Nat → Int64} {i x : Int32} : am_wr (am_wd I A J) 87 (am_seI (am_rd (am_wd I A J) 87) i x) = am_wd I (am_u A 87 (upd (A 87) i.toNatClampNeg x)) J := am_wd_wr (Nat.le_of_ble_eq_true rfl) rfl
theorem ww_87 {I A : Nat → Nat → Int32} {J : Nat → Nat → Int64} {g : Nat → Int32} : am_wr (am_wd I A J) 87 (.inl (0, 120, .inl g)) = am_wd I (am_u A 87 g) J := am_wd_wr (Nat.le_of_ble_eq_true rfl) rfl
theorem wl_87 {I A : Nat → Nat → Int32} {J : Nat → Nat → Int64} : am_isL (am_rd (am_wd I A J) 87) = true := rfl
theorem wn_87 {I A : Nat → Nat → Int32} {J : Nat → Nat → Int64} : am_len (am_rd (am_wd I A J) 87) = 120 := rfl
theorem wr_88 {I A : Nat → Nat → Int32} {J : Nat → Nat → Int64} : am_rd (am_wd I A J) 88 = .inl (0, 120, .inl (A 88)) := rfl
theorem wi_88 {I A : Nat → Nat → Int32} {J : Nat → Nat → Int64} {i : Int32} : am_isI 0 (am_rd (am_wd I A J) 88) i = am_in i 120 := rfl
theorem wg_88 {I A : Nat → Nat → Int32} {J : Nat → Nat → Int64} {i : Int32} : am_geI (am_rd (am_wd I A J) 88) i = A 88 i.toNatClampNeg := rfl
theorem ws_88 {I A : Nat → Nat → Int32} {J : Nat → Nat → Int64} {i x : Int32} : am_wr (am_wd I A J) 88 (am_seI (am_rd (am_wd I A J) 88) i x) = am_wd I (am_u A 88 (upd (A 88) i.toNatClampNeg x)) J := am_wd_wr (Nat.le_of_ble_eq_true rfl) rfl
theorem ww_88 {I A : Nat → Nat → Int32} {J : Nat → Nat → Int64} {g : Nat → Int32} : am_wr (am_wd I A J) 88 (.inl (0, 120, .inl g)) = am_wd I (am_u A 88 g) J := am_wd_wr (Nat.le_of_ble_eq_true rfl) rfl
theorem wl_88 {I A : Nat → Nat → Int32} {J : Nat → Nat → Int64} : am_isL (am_rd (am_wd I A J) 88) = true := rfl
theorem wn_88 {I A : Nat → Nat → Int32} {J : Nat → Nat → Int64} : am_len (am_rd (am_wd I A J) 88) = 120 := rfl
theorem wr_89 {I A : Nat → Nat → Int32} {J : Nat → Nat → Int64} : am_rd (am_wd I A J) 89 = .inl (0, 6, .inl (A 89)) := rfl
theorem wi_89 {I A : Nat → Nat → Int32} {J : Nat → Nat → Int64} {i : Int32} : am_isI 0 (am_rd (am_wd I A J) 89) i = am_in i 6 := rfl
theorem wg_89 {I A : Nat → Nat → Int32} {J : Nat → Nat → Int64} {i : Int32} : am_geI (am_rd (am_wd I A J) 89) i = A 89 i.toNatClampNeg := rfl
theorem ws_89 {I A : Nat → Nat → Int32} {J : Nat → Nat → Int64} {i x : Int32} : am_wr (am_wd I A J) 89 (am_seI (am_rd (am_wd I A J) 89) i x) = am_wd I (am_u A 89 (upd (A 89) i.toNatClampNeg x)) J := am_wd_wr (Nat.le_of_ble_eq_true rfl) rfl
theorem ww_89 {I A : Nat → Nat → Int32} {J : Nat → Nat → Int64} {g : Nat → Int32} : am_wr (am_wd I A J) 89 (.inl (0, 6, .inl g)) = am_wd I (am_u A 89 g) J := am_wd_wr (Nat.le_of_ble_eq_true rfl) rfl
theorem wl_89 {I A : Nat → Nat → Int32} {J : Nat → Nat → Int64} : am_isL (am_rd (am_wd I A J) 89) = true := rfl
theorem wn_89 {I A : Nat → Nat → Int32} {J : Nat → Nat → Int64} : am_len (am_rd (am_wd I A J) 89) = 6 := rfl
theorem wr_90 {I A : Nat → Nat → Int32} {J : Nat → Nat → Int64} : am_rd (am_wd I A J) 90 = .inl (2, 6, .inl (A 90)) := rfl
theorem wi_90 {I A : Nat → Nat → Int32} {J : Nat → Nat → Int64} {i : Int32} : am_isI 2 (am_rd (am_wd I A J) 90) i = am_in i 6 := rfl
theorem wg_90 {I A : Nat → Nat → Int32} {J : Nat → Nat → Int64} {i : Int32} : am_geI (am_rd (am_wd I A J) 90) i = A 90 i.toNatClampNeg := rfl
theorem ws_90 {I A : Nat → Nat → Int32} {J : Nat → Nat → Int64} {i x : Int32} : am_wr (am_wd I A J) 90 (am_seI (am_rd (am_wd I A J) 90) i x) = am_wd I (am_u A 90 (upd (A 90) i.toNatClampNeg x)) J := am_wd_wr (Nat.le_of_ble_eq_true rfl) rfl
theorem ww_90 {I A : Nat → Nat → Int32} {J : Nat → Nat → Int64} {g : Nat → Int32} : am_wr (am_wd I A J) 90 (.inl (2, 6, .inl g)) = am_wd I (am_u A 90 g) J := am_wd_wr (Nat.le_of_ble_eq_true rfl) rfl
theorem wl_90 {I A : Nat → Nat → Int32} {J : Nat → Nat → Int64} : am_isL (am_rd (am_wd I A J) 90) = true := rfl
theorem wn_90 {I A : Nat → Nat → Int32} {J : Nat → Nat → Int64} : am_len (am_rd (am_wd I A J) 90) = 6 := rfl
theorem wr_91 {I A : Nat → Nat → Int32} {J : Nat → Nat → Int64} : am_rd (am_wd I A J) 91 = .inl (0, 5, .inl (A 91)) := rfl
theorem wi_91 {I A : Nat → Nat → Int32} {J : Nat → Nat → Int64} {i : Int32} : am_isI 0 (am_rd (am_wd I A J) 91) i = am_in i 5 := rfl
theorem wg_91 {I A : Nat → Nat → Int32} {J : Nat → Nat → Int64} {i : Int32} : am_geI (am_rd (am_wd I A J) 91) i = A 91 i.toNatClampNeg := rfl
theorem ws_91 {I A : Nat → Nat → Int32} {J : Nat → Nat → Int64} {i x : Int32} : am_wr (am_wd I A J) 91 (am_seI (am_rd (am_wd I A J) 91) i x) = am_wd I (am_u A 91 (upd (A 91) i.toNatClampNeg x)) J := am_wd_wr (Nat.le_of_ble_eq_true rfl) rfl
theorem ww_91 {I A : Nat → Nat → Int32} {J : Nat → Nat → Int64} {g : Nat → Int32} : am_wr (am_wd I A J) 91 (.inl (0, 5, .inl g)) = am_wd I (am_u A 91 g) J := am_wd_wr (Nat.le_of_ble_eq_true rfl) rfl
theorem wl_91 {I A : Nat → Nat → Int32} {J : Nat → Nat → Int64} : am_isL (am_rd (am_wd I A J) 91) = true := rfl
theorem wn_91 {I A : Nat → Nat → Int32} {J : Nat → Nat → Int64} : am_len (am_rd (am_wd I A J) 91) = 5 := rfl
theorem wr_92 {I A : Nat → Nat → Int32} {J : Nat → Nat → Int64} : am_rd (am_wd I A J) 92 = .inl (0, 8, .inl (A 92)) := rfl
theorem wi_92 {I A : Nat → Nat → Int32} {J : Nat → Nat → Int64} {i : Int32} : am_isI 0 (am_rd (am_wd I A J) 92) i = am_in i 8 := rfl
theorem wg_92 {I A : Nat → Nat → Int32} {J : Nat → Nat → Int64} {i : Int32} : am_geI (am_rd (am_wd I A J) 92) i = A 92 i.toNatClampNeg := rfl
theorem ws_92 {I A : Nat → Nat → Int32} {J : Nat → Nat → Int64} {i x : Int32} : am_wr (am_wd I A J) 92 (am_seI (am_rd (am_wd I A J) 92) i x) = am_wd I (am_u A 92 (upd (A 92) i.toNatClampNeg x)) J := am_wd_wr (Nat.le_of_ble_eq_true rfl) rfl
theorem ww_92 {I A : Nat → Nat → Int32} {J : Nat → Nat → Int64} {g : Nat → Int32} : am_wr (am_wd I A J) 92 (.inl (0, 8, .inl g)) = am_wd I (am_u A 92 g) J := am_wd_wr (Nat.le_of_ble_eq_true rfl) rfl
theorem wl_92 {I A : Nat → Nat → Int32} {J : Nat → Nat → Int64} : am_isL (am_rd (am_wd I A J) 92) = true := rfl
theorem wn_92 {I A : Nat → Nat → Int32} {J : Nat → Nat → Int64} : am_len (am_rd (am_wd I A J) 92) = 8 := rfl
theorem wr_93 {I A : Nat → Nat → Int32} {J : Nat → Nat → Int64} : am_rd (am_wd I A J) 93 = .inl (0, 14, .inl (A 93)) := rfl
theorem wi_93 {I A : Nat → Nat → Int32} {J : Nat → Nat → Int64} {i : Int32} : am_isI 0 (am_rd (am_wd I A J) 93) i = am_in i 14 := rfl
theorem wg_93 {I A : Nat → Nat → Int32} {J : Nat → Nat → Int64} {i : Int32} : am_geI (am_rd (am_wd I A J) 93) i = A 93 i.toNatClampNeg := rfl
theorem ws_93 {I A : Nat → Nat → Int32} {J : Nat → Nat → Int64} {i x : Int32} : am_wr (am_wd I A J) 93 (am_seI (am_rd (am_wd I A J) 93) i x) = am_wd I (am_u A 93 (upd (A 93) i.toNatClampNeg x)) J := am_wd_wr (Nat.le_of_ble_eq_true rfl) rfl
theorem ww_93 {I A : Nat → Nat → Int32} {J : Nat → Nat → Int64} {g : Nat → Int32} : am_wr (am_wd I A J) 93 (.inl (0, 14, .inl g)) = am_wd I (am_u A 93 g) J := am_wd_wr (Nat.le_of_ble_eq_true rfl) rfl
theorem wl_93 {I A : Nat → Nat → Int32} {J : Nat → Nat → Int64} : am_isL (am_rd (am_wd I A J) 93) = true := rfl
theorem wn_93 {I A : Nat → Nat → Int32} {J : Nat → Nat → Int64} : am_len (am_rd (am_wd I A J) 93) = 14 := rfl
theorem wr_94 {I A : Nat → Nat → Int32} {J : Nat → Nat → Int64} : am_rd (am_wd I A J) 94 = .inl (0, 5, .inl (A 94)) := rfl
theorem wi_94 {I A : Nat → Nat → Int32} {J : Nat → Nat → Int64} {i : Int32} : am_isI 0 (am_rd (am_wd I A J) 94) i = am_in i 5 := rfl
theorem wg_94 {I A : Nat → Nat → Int32} {J : Nat → Nat → Int64} {i : Int32} : am_geI (am_rd (am_wd I A J) 94) i = A 94 i.toNatClampNeg := rfl
theorem ws_94 {I A : Nat → Nat → Int32} {J : Nat → Nat → Int64} {i x : Int32} : am_wr (am_wd I A J) 94 (am_seI (am_rd (am_wd I A J) 94) i x) = am_wd I (am_u A 94 (upd (A 94) i.toNatClampNeg x)) J := am_wd_wr (Nat.le_of_ble_eq_true rfl) rfl
theorem ww_94 {I A : Nat → Nat → Int32} {J : Nat → Nat → Int64} {g : Nat → Int32} : am_wr (am_wd I A J) 94 (.inl (0, 5, .inl g)) = am_wd I (am_u A 94 g) J := am_wd_wr (Nat.le_of_ble_eq_true rfl) rfl
theorem wl_94 {I A : Nat → Nat → Int32} {J : Nat → Nat → Int64} : am_isL (am_rd (am_wd I A J) 94) = true := rfl
theorem wn_94 {I A : Nat → Nat → Int32} {J : Nat → Nat → Int64} : am_len (am_rd (am_wd I A J) 94) = 5 := rfl
theorem wr_95 {I A : Nat → Nat → Int32} {J : Nat → Nat → Int64} : am_rd (am_wd I A J) 95 = .inl (0, 6, .inl (A 95)) := rfl
theorem wi_95 {I A : Nat → Nat → Int32} {J : Nat → Nat → Int64} {i : Int32} : am_isI 0 (am_rd (am_wd I A J) 95) i = am_in i 6 := rfl
theorem wg_95 {I A : Nat → Nat → Int32} {J : Nat → Nat → Int64} {i : Int32} : am_geI (am_rd (am_wd I A J) 95) i = A 95 i.toNatClampNeg := rfl
theorem ws_95 {I A : Nat → Nat → Int32} {J : Nat → Nat → Int64} {i x : Int32} : am_wr (am_wd I A J) 95 (am_seI (am_rd (am_wd I A J) 95) i x) = am_wd I (am_u A 95 (upd (A 95) i.toNatClampNeg x)) J := am_wd_wr (Nat.le_of_ble_eq_true rfl) rfl
theorem ww_95 {I A : Nat → Nat → Int32} {J : Nat → Nat → Int64} {g : Nat → Int32} : am_wr (am_wd I A J) 95 (.inl (0, 6, .inl g)) = am_wd I (am_u A 95 g) J := am_wd_wr (Nat.le_of_ble_eq_true rfl) rfl
theorem wl_95 {I A : Nat → Nat → Int32} {J : Nat → Nat → Int64} : am_isL (am_rd (am_wd I A J) 95) = true := rfl
theorem wn_95 {I A : Nat → Nat → Int32} {J : Nat → Nat → Int64} : am_len (am_rd (am_wd I A J) 95) = 6 := rfl
theorem wr_96 {I A : Nat → Nat → Int32} {J : Nat → Nat → Int64} : am_rd (am_wd I A J) 96 = .inl (0, 6, .inl (A 96)) := rfl
theorem wi_96 {I A : Nat → Nat → Int32} {J : Nat → Nat → Int64} {i : Int32} : am_isI 0 (am_rd (am_wd I A J) 96) i = am_in i 6 := rfl
theorem wg_96 {I A : Nat → Nat → Int32} {J : Nat → Nat → Int64} {i : Int32} : am_geI (am_rd (am_wd I A J) 96) i = A 96 i.toNatClampNeg := rfl
theorem ws_96 {I A : Nat → Nat → Int32} {J : Nat → Nat → Int64} {i x : Int32} : am_wr (am_wd I A J) 96 (am_seI (am_rd (am_wd I A J) 96) i x) = am_wd I (am_u A 96 (upd (A 96) i.toNatClampNeg x)) J := am_wd_wr (Nat.le_of_ble_eq_true rfl) rfl
theorem ww_96 {I A : Nat → Nat → Int32} {J : Nat → Nat → Int64} {g : Nat → Int32} : am_wr (am_wd I A J) 96 (.inl (0, 6, .inl g)) = am_wd I (am_u A 96 g) J := am_wd_wr (Nat.le_of_ble_eq_true rfl) rfl
theorem wl_96 {I A : Nat → Nat → Int32} {J : Nat → Nat → Int64} : am_isL (am_rd (am_wd I A J) 96) = true := rfl
theorem wn_96 {I A : Nat → Nat → Int32} {J : Nat → Nat → Int64} : am_len (am_rd (am_wd I A J) 96) = 6 := rfl
theorem wr_97 {I A : Nat → Nat → Int32} {J : Nat → Nat → Int64} : am_rd (am_wd I A J) 97 = .inl (1, 360, .inr (.inl (J 97))) := rfl
theorem wi_97 {I A : Nat → Nat → Int32} {J : Nat → Nat → Int64} {i : Int32} : am_isJ 1 (am_rd (am_wd I A J) 97) i = am_in i 360 := rfl
theorem wg_97 {I A : Nat → Nat → Int32} {J : Nat → Nat → Int64} {i : Int32} : am_geJ (am_rd (am_wd I A J) 97) i = J 97 i.toNatClampNeg := rfl
theorem ws_97 {I A : Nat → Nat → Int32} {J : Nat → Nat → Int64} {i : Int32} {x : Int64} : am_wr (am_wd I A J) 97 (am_seJ (am_rd (am_wd I A J) 97) i x) = am_wd I A (am_u J 97 (vp_updL (J 97) i.toNatClampNeg x)) := am_wd_wr (Nat.le_of_ble_eq_true rfl) rfl
theorem ww_97 {I A : Nat → Nat → Int32} {J : Nat → Nat → Int64} {g : Nat → Int64} : am_wr (am_wd I A J) 97 (.inl (1, 360, .inr (.inl g))) = am_wd I A (am_u J 97 g) := am_wd_wr (Nat.le_of_ble_eq_true rfl) rfl
theorem wl_97 {I A : Nat → Nat → Int32} {J : Nat → Nat → Int64} : am_isL (am_rd (am_wd I A J) 97) = true := rfl
theorem wn_97 {I A : Nat → Nat → Int32} {J : Nat → Nat → Int64} : am_len (am_rd (am_wd I A J) 97) = 360 := rfl
theorem wr_98 {I A : Nat → Nat → Int32} {J : Nat → Nat → Int64} : am_rd (am_wd I A J) 98 = .inl (1, 60, .inr (.inl (J 98))) := rfl
theorem wi_98 {I A : Nat → Nat → Int32} {J : Nat → Nat → Int64} {i : Int32} : am_isJ 1 (am_rd (am_wd I A J) 98) i = am_in i 60 := rfl
theorem wg_98 {I A : Nat → Nat → Int32} {J : Nat → Nat → Int64} {i : Int32} : am_geJ (am_rd (am_wd I A J) 98) i = J 98 i.toNatClampNeg := rfl
theorem ws_98 {I A : Nat → Nat → Int32} {J : Nat → Nat → Int64} {i : Int32} {x : Int64} : am_wr (am_wd I A J) 98 (am_seJ (am_rd (am_wd I A J) 98) i x) = am_wd I A (am_u J 98 (vp_updL (J 98) i.toNatClampNeg x)) := am_wd_wr (Nat.le_of_ble_eq_true rfl) rfl
theorem ww_98 {I A : Nat → Nat → Int32} {J : Nat → Nat → Int64} {g : Nat → Int64} : am_wr (am_wd I A J) 98 (.inl (1, 60, .inr (.inl g))) = am_wd I A (am_u J 98 g) := am_wd_wr (Nat.le_of_ble_eq_true rfl) rfl
theorem wl_98 {I A : Nat → Nat → Int32} {J : Nat → Nat → Int64} : am_isL (am_rd (am_wd I A J) 98) = true := rfl
theorem wn_98 {I A : Nat → Nat → Int32} {J : Nat → Nat → Int64} : am_len (am_rd (am_wd I A J) 98) = 60 := rfl
theorem wr_99 {I A : Nat → Nat → Int32} {J : Nat → Nat → Int64} : am_rd (am_wd I A J) 99 = .inl (0, 4, .inl (A 99)) := rfl
theorem wi_99 {I A : Nat → Nat → Int32} {J : Nat → Nat → Int64} {i : Int32} : am_isI 0 (am_rd (am_wd I A J) 99) i = am_in i 4 := rfl
theorem wg_99 {I A : Nat → Nat → Int32} {J : Nat → Nat → Int64} {i : Int32} : am_geI (am_rd (am_wd I A J) 99) i = A 99 i.toNatClampNeg := rfl
theorem ws_99 {I A : Nat → Nat → Int32} {J : Nat → Nat → Int64} {i x : Int32} : am_wr (am_wd I A J) 99 (am_seI (am_rd (am_wd I A J) 99) i x) = am_wd I (am_u A 99 (upd (A 99) i.toNatClampNeg x)) J := am_wd_wr (Nat.le_of_ble_eq_true rfl) rfl
theorem ww_99 {I A : Nat → Nat → Int32} {J : Nat → Nat → Int64} {g : Nat → Int32} : am_wr (am_wd I A J) 99 (.inl (0, 4, .inl g)) = am_wd I (am_u A 99 g) J := am_wd_wr (Nat.le_of_ble_eq_true rfl) rfl
theorem wl_99 {I A : Nat → Nat → Int32} {J : Nat → Nat → Int64} : am_isL (am_rd (am_wd I A J) 99) = true := rfl
theorem wn_99 {I A : Nat → Nat → Int32} {J : Nat → Nat → Int64} : am_len (am_rd (am_wd I A J) 99) = 4 := rfl
theorem wr_100 {I A : Nat → Nat → Int32} {J : Nat → Nat → Int64} : am_rd (am_wd I A J) 100 = .inl (0, 30, .inl (A 100)) := rfl
theorem wi_100 {I A : Nat → Nat → Int32} {J : Nat → Nat → Int64} {i : Int32} : am_isI 0 (am_rd (am_wd I A J) 100) i = am_in i 30 := rfl
theorem wg_100 {I A : Nat → Nat → Int32} {J : Nat → Nat → Int64} {i : Int32} : am_geI (am_rd (am_wd I A J) 100) i = A 100 i.toNatClampNeg := rfl
theorem ws_100 {I A : Nat → Nat → Int32} {J : Nat → Nat → Int64} {i x : Int32} : am_wr (am_wd I A J) 100 (am_seI (am_rd (am_wd I A J) 100) i x) = am_wd I (am_u A 100 (upd (A 100) i.toNatClampNeg x)) J := am_wd_wr (Nat.le_of_ble_eq_true rfl) rfl
theorem ww_100 {I A : Nat → Nat → Int32} {J : Nat → Nat → Int64} {g : Nat → Int32} : am_wr (am_wd I A J) 100 (.inl (0, 30, .inl g)) = am_wd I (am_u A 100 g) J := am_wd_wr (Nat.le_of_ble_eq_true rfl) rfl
theorem wl_100 {I A : Nat → Nat → Int32} {J : Nat → Nat → Int64} : am_isL (am_rd (am_wd I A J) 100) = true := rfl
theorem wn_100 {I A : Nat → Nat → Int32} {J : Nat → Nat → Int64} : am_len (am_rd (am_wd I A J) 100) = 30 := rfl
theorem wr_101 {I A : Nat → Nat → Int32} {J : Nat → Nat → Int64} : am_rd (am_wd I A J) 101 = .inl (0, 3, .inl (A 101)) := rfl
theorem wi_101 {I A : Nat → Nat → Int32} {J : Nat → Nat → Int64} {i : Int32} : am_isI 0 (am_rd (am_wd I A J) 101) i = am_in i 3 := rfl
theorem wg_101 {I A : Nat → Nat → Int32} {J : Nat → Nat → Int64} {i : Int32} : am_geI (am_rd (am_wd I A J) 101) i = A 101 i.toNatClampNeg := rfl
theorem ws_101 {I A : Nat → Nat → Int32} {J : Nat → Nat → Int64} {i x : Int32} : am_wr (am_wd I A J) 101 (am_seI (am_rd (am_wd I A J) 101) i x) = am_wd I (am_u A 101 (upd (A 101) i.toNatClampNeg x)) J := am_wd_wr (Nat.le_of_ble_eq_true rfl) rfl
theorem ww_101 {I A : Nat → Nat → Int32} {J : Nat → Nat → Int64} {g : Nat → Int32} : am_wr (am_wd I A J) 101 (.inl (0, 3, .inl g)) = am_wd I (am_u A 101 g) J := am_wd_wr (Nat.le_of_ble_eq_true rfl) rfl
theorem wl_101 {I A : Nat → Nat → Int32} {J : Nat → Nat → Int64} : am_isL (am_rd (am_wd I A J) 101) = true := rfl
theorem wn_101 {I A : Nat → Nat → Int32} {J : Nat → Nat → Int64} : am_len (am_rd (am_wd I A J) 101) = 3 := rfl
theorem wr_102 {I A : Nat → Nat → Int32} {J : Nat → Nat → Int64} : am_rd (am_wd I A J) 102 = .inl (0, 8, .inl (A 102)) := rfl
theorem wi_102 {I A : Nat → Nat → Int32} {J : Nat → Nat → Int64} {i : Int32} : am_isI 0 (am_rd (am_wd I A J) 102) i = am_in i 8 := rfl
theorem wg_102 {I A : Nat → Nat → Int32} {J : Nat → Nat → Int64} {i : Int32} : am_geI (am_rd (am_wd I A J) 102) i = A 102 i.toNatClampNeg := rfl
theorem ws_102 {I A : Nat → Nat → Int32} {J : Nat → Nat → Int64} {i x : Int32} : am_wr (am_wd I A J) 102 (am_seI (am_rd (am_wd I A J) 102) i x) = am_wd I (am_u A 102 (upd (A 102) i.toNatClampNeg x)) J := am_wd_wr (Nat.le_of_ble_eq_true rfl) rfl
theorem ww_102 {I A : Nat → Nat → Int32} {J : Nat → Nat → Int64} {g : Nat → Int32} : am_wr (am_wd I A J) 102 (.inl (0, 8, .inl g)) = am_wd I (am_u A 102 g) J := am_wd_wr (Nat.le_of_ble_eq_true rfl) rfl
theorem wl_102 {I A : Nat → Nat → Int32} {J : Nat → Nat → Int64} : am_isL (am_rd (am_wd I A J) 102) = true := rfl
theorem wn_102 {I A : Nat → Nat → Int32} {J : Nat → Nat → Int64} : am_len (am_rd (am_wd I A J) 102) = 8 := rfl
theorem wr_103 {I A : Nat → Nat → Int32} {J : Nat → Nat → Int64} : am_rd (am_wd I A J) 103 = .inl (0, 8, .inl (A 103)) := rfl
theorem wi_103 {I A : Nat → Nat → Int32} {J : Nat → Nat → Int64} {i : Int32} : am_isI 0 (am_rd (am_wd I A J) 103) i = am_in i 8 := rfl
theorem wg_103 {I A : Nat → Nat → Int32} {J : Nat → Nat → Int64} {i : Int32} : am_geI (am_rd (am_wd I A J) 103) i = A 103 i.toNatClampNeg := rfl
theorem ws_103 {I A : Nat → Nat → Int32} {J : Nat → Nat → Int64} {i x : Int32} : am_wr (am_wd I A J) 103 (am_seI (am_rd (am_wd I A J) 103) i x) = am_wd I (am_u A 103 (upd (A 103) i.toNatClampNeg x)) J := am_wd_wr (Nat.le_of_ble_eq_true rfl) rfl
theorem ww_103 {I A : Nat → Nat → Int32} {J : Nat → Nat → Int64} {g : Nat → Int32} : am_wr (am_wd I A J) 103 (.inl (0, 8, .inl g)) = am_wd I (am_u A 103 g) J := am_wd_wr (Nat.le_of_ble_eq_true rfl) rfl
theorem wl_103 {I A : Nat → Nat → Int32} {J : Nat → Nat → Int64} : am_isL (am_rd (am_wd I A J) 103) = true := rfl
theorem wn_103 {I A : Nat → Nat → Int32} {J : Nat → Nat → Int64} : am_len (am_rd (am_wd I A J) 103) = 8 := rfl
theorem wr_104 {I A : Nat → Nat → Int32} {J : Nat → Nat → Int64} : am_rd (am_wd I A J) 104 = .inl (0, 56, .inl (A 104)) := rfl
theorem wi_104 {I A : Nat → Nat → Int32} {J : Nat → Nat → Int64} {i : Int32} : am_isI 0 (am_rd (am_wd I A J) 104) i = am_in i 56 := rfl
theorem wg_104 {I A : Nat → Nat → Int32} {J : Nat → Nat → Int64} {i : Int32} : am_geI (am_rd (am_wd I A J) 104) i = A 104 i.toNatClampNeg := rfl
theorem ws_104 {I A : Nat → Nat → Int32} {J : Nat → Nat → Int64} {i x : Int32} : am_wr (am_wd I A J) 104 (am_seI (am_rd (am_wd I A J) 104) i x) = am_wd I (am_u A 104 (upd (A 104) i.toNatClampNeg x)) J := am_wd_wr (Nat.le_of_ble_eq_true rfl) rfl
theorem ww_104 {I A : Nat → Nat → Int32} {J : Nat → Nat → Int64} {g : Nat → Int32} : am_wr (am_wd I A J) 104 (.inl (0, 56, .inl g)) = am_wd I (am_u A 104 g) J := am_wd_wr (Nat.le_of_ble_eq_true rfl) rfl
theorem wl_104 {I A : Nat → Nat → Int32} {J : Nat → Nat → Int64} : am_isL (am_rd (am_wd I A J) 104) = true := rfl
theorem wn_104 {I A : Nat → Nat → Int32} {J : Nat → Nat → Int64} : am_len (am_rd (am_wd I A J) 104) = 56 := rfl
theorem wr_105 {I A : Nat → Nat → Int32} {J : Nat → Nat → Int64} : am_rd (am_wd I A J) 105 = .inl (0, 14, .inl (A 105)) := rfl
theorem wi_105 {I A : Nat → Nat → Int32} {J : Nat → Nat → Int64} {i : Int32} : am_isI 0 (am_rd (am_wd I A J) 105) i = am_in i 14 := rfl
theorem wg_105 {I A : Nat → Nat → Int32} {J : Nat → Nat → Int64} {i : Int32} : am_geI (am_rd (am_wd I A J) 105) i = A 105 i.toNatClampNeg := rfl
theorem ws_105 {I A : Nat → Nat → Int32} {J : Nat → Nat → Int64} {i x : Int32} : am_wr (am_wd I A J) 105 (am_seI (am_rd (am_wd I A J) 105) i x) = am_wd I (am_u A 105 (upd (A 105) i.toNatClampNeg x)) J := am_wd_wr (Nat.le_of_ble_eq_true rfl) rfl
theorem ww_105 {I A : Nat → Nat → Int32} {J : Nat → Nat → Int64} {g : Nat → Int32} : am_wr (am_wd I A J) 105 (.inl (0, 14, .inl g)) = am_wd I (am_u A 105 g) J := am_wd_wr (Nat.le_of_ble_eq_true rfl) rfl
theorem wl_105 {I A : Nat → Nat → Int32} {J : Nat → Nat → Int64} : am_isL (am_rd (am_wd I A J) 105) = true := rfl
theorem wn_105 {I A : Nat → Nat → Int32} {J : Nat → Nat → Int64} : am_len (am_rd (am_wd I A J) 105) = 14 := rfl
theorem wr_106 {I A : Nat → Nat → Int32} {J : Nat → Nat → Int64} : am_rd (am_wd I A J) 106 = .inl (0, 5, .inl (A 106)) := rfl
theorem wi_106 {I A : Nat → Nat → Int32} {J : Nat → Nat → Int64} {i : Int32} : am_isI 0 (am_rd (am_wd I A J) 106) i = am_in i 5 := rfl
theorem wg_106 {I A : Nat → Nat → Int32} {J : Nat → Nat → Int64} {i : Int32} : am_geI (am_rd (am_wd I A J) 106) i = A 106 i.toNatClampNeg := rfl
theorem ws_106 {I A : Nat → Nat → Int32} {J : Nat → Nat → Int64} {i x : Int32} : am_wr (am_wd I A J) 106 (am_seI (am_rd (am_wd I A J) 106) i x) = am_wd I (am_u A 106 (upd (A 106) i.toNatClampNeg x)) J := am_wd_wr (Nat.le_of_ble_eq_true rfl) rfl
theorem ww_106 {I A : Nat → Nat → Int32} {J : Nat → Nat → Int64} {g : Nat → Int32} : am_wr (am_wd I A J) 106 (.inl (0, 5, .inl g)) = am_wd I (am_u A 106 g) J := am_wd_wr (Nat.le_of_ble_eq_true rfl) rfl
theorem wl_106 {I A : Nat → Nat → Int32} {J : Nat → Nat → Int64} : am_isL (am_rd (am_wd I A J) 106) = true := rfl
theorem wn_106 {I A : Nat → Nat → Int32} {J : Nat → Nat → Int64} : am_len (am_rd (am_wd I A J) 106) = 5 := rfl
theorem wr_107 {I A : Nat → Nat → Int32} {J : Nat → Nat → Int64} : am_rd (am_wd I A J) 107 = .inl (0, 48, .inl (A 107)) := rfl
theorem wi_107 {I A : Nat → Nat → Int32} {J : Nat → Nat → Int64} {i : Int32} : am_isI 0 (am_rd (am_wd I A J) 107) i = am_in i 48 := rfl
theorem wg_107 {I A : Nat → Nat → Int32} {J : Nat → Nat → Int64} {i : Int32} : am_geI (am_rd (am_wd I A J) 107) i = A 107 i.toNatClampNeg := rfl
theorem ws_107 {I A : Nat → Nat → Int32} {J : Nat → Nat → Int64} {i x : Int32} : am_wr (am_wd I A J) 107 (am_seI (am_rd (am_wd I A J) 107) i x) = am_wd I (am_u A 107 (upd (A 107) i.toNatClampNeg x)) J := am_wd_wr (Nat.le_of_ble_eq_true rfl) rfl
theorem ww_107 {I A : Nat → Nat → Int32} {J : Nat → Nat → Int64} {g : Nat → Int32} : am_wr (am_wd I A J) 107 (.inl (0, 48, .inl g)) = am_wd I (am_u A 107 g) J := am_wd_wr (Nat.le_of_ble_eq_true rfl) rfl
theorem wl_107 {I A : Nat → Nat → Int32} {J : Nat → Nat → Int64} : am_isL (am_rd (am_wd I A J) 107) = true := rfl
theorem wn_107 {I A : Nat → Nat → Int32} {J : Nat → Nat → Int64} : am_len (am_rd (am_wd I A J) 107) = 48 := rfl
theorem wr_108 {I A : Nat → Nat → Int32} {J : Nat → Nat → Int64} : am_rd (am_wd I A J) 108 = .inl (0, 14, .inl (A 108)) := rfl
theorem wi_108 {I A : Nat → Nat → Int32} {J : Nat → Nat → Int64} {i : Int32} : am_isI 0 (am_rd (am_wd I A J) 108) i = am_in i 14 := rfl
theorem wg_108 {I A : Nat → Nat → Int32} {J : Nat → Nat → Int64} {i : Int32} : am_geI (am_rd (am_wd I A J) 108) i = A 108 i.toNatClampNeg := rfl
theorem ws_108 {I A : Nat → Nat → Int32} {J : Nat → Nat → Int64} {i x : Int32} : am_wr (am_wd I A J) 108 (am_seI (am_rd (am_wd I A J) 108) i x) = am_wd I (am_u A 108 (upd (A 108) i.toNatClampNeg x)) J := am_wd_wr (Nat.le_of_ble_eq_true rfl) rfl
theorem ww_108 {I A : Nat → Nat → Int32} {J : Nat → Nat → Int64} {g : Nat → Int32} : am_wr (am_wd I A J) 108 (.inl (0, 14, .inl g)) = am_wd I (am_u A 108 g) J := am_wd_wr (Nat.le_of_ble_eq_true rfl) rfl
theorem wl_108 {I A : Nat → Nat → Int32} {J : Nat → Nat → Int64} : am_isL (am_rd (am_wd I A J) 108) = true := rfl
theorem wn_108 {I A : Nat → Nat → Int32} {J : Nat → Nat → Int64} : am_len (am_rd (am_wd I A J) 108) = 14 := rfl
theorem wr_109 {I A : Nat → Nat → Int32} {J : Nat → Nat → Int64} : am_rd (am_wd I A J) 109 = .inl (0, 5, .inl (A 109)) := rfl
theorem wi_109 {I A : Nat → Nat → Int32} {J : Nat → Nat → Int64} {i : Int32} : am_isI 0 (am_rd (am_wd I A J) 109) i = am_in i 5 := rfl
theorem wg_109 {I A : Nat → Nat → Int32} {J : Nat → Nat → Int64} {i : Int32} : am_geI (am_rd (am_wd I A J) 109) i = A 109 i.toNatClampNeg := rfl
theorem ws_109 {I A : Nat → Nat → Int32} {J : Nat → Nat → Int64} {i x : Int32} : am_wr (am_wd I A J) 109 (am_seI (am_rd (am_wd I A J) 109) i x) = am_wd I (am_u A 109 (upd (A 109) i.toNatClampNeg x)) J := am_wd_wr (Nat.le_of_ble_eq_true rfl) rfl
theorem ww_109 {I A : Nat → Nat → Int32} {J : Nat → Nat → Int64} {g : Nat → Int32} : am_wr (am_wd I A J) 109 (.inl (0, 5, .inl g)) = am_wd I (am_u A 109 g) J := am_wd_wr (Nat.le_of_ble_eq_true rfl) rfl
theorem wl_109 {I A : Nat → Nat → Int32} {J : Nat → Nat → Int64} : am_isL (am_rd (am_wd I A J) 109) = true := rfl
theorem wn_109 {I A : Nat → Nat → Int32} {J : Nat → Nat → Int64} : am_len (am_rd (am_wd I A J) 109) = 5 := rfl
theorem wr_110 {I A : Nat → Nat → Int32} {J : Nat → Nat → Int64} : am_rd (am_wd I A J) 110 = .inl (0, 8, .inl (A 110)) := rfl
theorem wi_110 {I A : Nat → Nat → Int32} {J : Nat → Nat → Int64} {i : Int32} : am_isI 0 (am_rd (am_wd I A J) 110) i = am_in i 8 := rfl
theorem wg_110 {I A : Nat → Nat → Int32} {J : Nat → Nat → Int64} {i : Int32} : am_geI (am_rd (am_wd I A J) 110) i = A 110 i.toNatClampNeg := rfl
theorem ws_110 {I A : Nat → Nat → Int32} {J : Nat → Nat → Int64} {i x : Int32} : am_wr (am_wd I A J) 110 (am_seI (am_rd (am_wd I A J) 110) i x) = am_wd I (am_u A 110 (upd (A 110) i.toNatClampNeg x)) J := am_wd_wr (Nat.le_of_ble_eq_true rfl) rfl
theorem ww_110 {I A : Nat → Nat → Int32} {J : Nat → Nat → Int64} {g : Nat → Int32} : am_wr (am_wd I A J) 110 (.inl (0, 8, .inl g)) = am_wd I (am_u A 110 g) J := am_wd_wr (Nat.le_of_ble_eq_true rfl) rfl
theorem wl_110 {I A : Nat → Nat → Int32} {J : Nat → Nat → Int64} : am_isL (am_rd (am_wd I A J) 110) = true := rfl
theorem wn_110 {I A : Nat → Nat → Int32} {J : Nat → Nat → Int64} : am_len (am_rd (am_wd I A J) 110) = 8 := rfl
theorem wr_111 {I A : Nat → Nat → Int32} {J : Nat → Nat → Int64} : am_rd (am_wd I A J) 111 = .inl (0, 32, .inl (A 111)) := rfl
theorem wi_111 {I A : Nat → Nat → Int32} {J : Nat → Nat → Int64} {i : Int32} : am_isI 0 (am_rd (am_wd I A J) 111) i = am_in i 32 := rfl
theorem wg_111 {I A : Nat → Nat → Int32} {J : Nat → Nat → Int64} {i : Int32} : am_geI (am_rd (am_wd I A J) 111) i = A 111 i.toNatClampNeg := rfl
theorem ws_111 {I A : Nat → Nat → Int32} {J : Nat → Nat → Int64} {i x : Int32} : am_wr (am_wd I A J) 111 (am_seI (am_rd (am_wd I A J) 111) i x) = am_wd I (am_u A 111 (upd (A 111) i.toNatClampNeg x)) J := am_wd_wr (Nat.le_of_ble_eq_true rfl) rfl
theorem ww_111 {I A : Nat → Nat → Int32} {J : Nat → Nat → Int64} {g : Nat → Int32} : am_wr (am_wd I A J) 111 (.inl (0, 32, .inl g)) = am_wd I (am_u A 111 g) J := am_wd_wr (Nat.le_of_ble_eq_true rfl) rfl
theorem wl_111 {I A : Nat → Nat → Int32} {J : Nat → Nat → Int64} : am_isL (am_rd (am_wd I A J) 111) = true := rfl
theorem wn_111 {I A : Nat → Nat → Int32} {J : Nat → Nat → Int64} : am_len (am_rd (am_wd I A J) 111) = 32 := rfl
theorem wr_112 {I A : Nat → Nat → Int32} {J : Nat → Nat → Int64} : am_rd (am_wd I A J) 112 = .inl (0, 50, .inl (A 112)) := rfl
theorem wi_112 {I A : Nat → Nat → Int32} {J : Nat → Nat → Int64} {i : Int32} : am_isI 0 (am_rd (am_wd I A J) 112) i = am_in i 50 := rfl
theorem wg_112 {I A : Nat → Nat → Int32} {J : Nat → Nat → Int64} {i : Int32} : am_geI (am_rd (am_wd I A J) 112) i = A 112 i.toNatClampNeg := rfl
theorem ws_112 {I A : Nat → Nat → Int32} {J : Nat → Nat → Int64} {i x : Int32} : am_wr (am_wd I A J) 112 (am_seI (am_rd (am_wd I A J) 112) i x) = am_wd I (am_u A 112 (upd (A 112) i.toNatClampNeg x)) J := am_wd_wr (Nat.le_of_ble_eq_true rfl) rfl
theorem ww_112 {I A : Nat → Nat → Int32} {J : Nat → Nat → Int64} {g : Nat → Int32} : am_wr (am_wd I A J) 112 (.inl (0, 50, .inl g)) = am_wd I (am_u A 112 g) J := am_wd_wr (Nat.le_of_ble_eq_true rfl) rfl
theorem wl_112 {I A : Nat → Nat → Int32} {J : Nat → Nat → Int64} : am_isL (am_rd (am_wd I A J) 112) = true := rfl
theorem wn_112 {I A : Nat → Nat → Int32} {J : Nat → Nat → Int64} : am_len (am_rd (am_wd I A J) 112) = 50 := rfl
theorem wr_113 {I A : Nat → Nat → Int32} {J : Nat → Nat → Int64} : am_rd (am_wd I A J) 113 = .inl (0, 24, .inl (A 113)) := rfl
theorem wi_113 {I A : Nat → Nat → Int32} {J : Nat → Nat → Int64} {i : Int32} : am_isI 0 (am_rd (am_wd I A J) 113) i = am_in i 24 := rfl
theorem wg_113 {I A : Nat → Nat → Int32} {J : Nat → Nat → Int64} {i : Int32} : am_geI (am_rd (am_wd I A J) 113) i = A 113 i.toNatClampNeg := rfl
theorem ws_113 {I A : Nat → Nat → Int32} {J : Nat → Nat → Int64} {i x : Int32} : am_wr (am_wd I A J) 113 (am_seI (am_rd (am_wd I A J) 113) i x) = am_wd I (am_u A 113 (upd (A 113) i.toNatClampNeg x)) J := am_wd_wr (Nat.le_of_ble_eq_true rfl) rfl
theorem ww_113 {I A : Nat → Nat → Int32} {J : Nat → Nat → Int64} {g : Nat → Int32} : am_wr (am_wd I A J) 113 (.inl (0, 24, .inl g)) = am_wd I (am_u A 113 g) J := am_wd_wr (Nat.le_of_ble_eq_true rfl) rfl
theorem wl_113 {I A : Nat → Nat → Int32} {J : Nat → Nat → Int64} : am_isL (am_rd (am_wd I A J) 113) = true := rfl
theorem wn_113 {I A : Nat → Nat → Int32} {J : Nat → Nat → Int64} : am_len (am_rd (am_wd I A J) 113) = 24 := rfl

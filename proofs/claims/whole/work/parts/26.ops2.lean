section AMP
variable {X : Nat × (Nat → Int32)} {d : Nat} {M : am_M} {pc : Nat} {L S : List Value} {w : am_W}
theorem am_fits_int {ci k : Nat} (h : am_ty ci k = .int) (x : Int32) : am_fits ci k (.int x) = true := by
  unfold am_fits
  rw [h]
  simp [fits, narrow, am_nof]
def am_isRT : FieldType → Bool
  | .object _ => true
  | .array _ => true
  | _ => false
theorem am_fits_ref {ci k : Nat} (h : am_isRT (am_ty ci k) = true) (r : Nat) : am_fits ci k (.ref r) = true := by
  unfold am_fits
  cases hz : am_ty ci k <;> rw [hz] at h <;> first | cases h; done | simp [fits, narrow, am_nof]
theorem am_fits_bool {ci k : Nat} (h : am_ty ci k = .boolean) (x : Int32) : (am_fits ci k (.int x) = true) ↔ (x = 0 ∨ x = 1) := by
  unfold am_fits
  rw [h]
  constructor
  · intro q
    simp only [fits, Bool.and_eq_true, Bool.or_eq_true, beq_iff_eq] at q
    exact q.1.1
  · rintro (rfl | rfl) <;> rfl
theorem am_o_putI {i r : Nat} {x : Int32} {ci fk ps : Nat} {nb : Bool} (hd : decode M.2.2.1 pc = .ok (.putfield i, 3)) (hq : am_lq M.1 i am_tF = some (ci, fk, ps, nb)) (hm : am_mayF M ci fk = true) (ht : am_ty ci fk = .int) : am_EV X d M pc L (.int x :: .ref r :: S) w = if am_isF ci fk (am_rd w r) = true then am_EV X d M (pc + 3) L S (am_wr w r (am_put fk (am_rd w r) (.int x))) else none := by
  rw [am_o_putf hd hq hm]
  simp only [am_fits_int ht, and_true]
theorem am_o_putR {i r x : Nat} {ci fk ps : Nat} {nb : Bool} (hd : decode M.2.2.1 pc = .ok (.putfield i, 3)) (hq : am_lq M.1 i am_tF = some (ci, fk, ps, nb)) (hm : am_mayF M ci fk = true) (ht : am_isRT (am_ty ci fk) = true) : am_EV X d M pc L (.ref x :: .ref r :: S) w = if am_isF ci fk (am_rd w r) = true then am_EV X d M (pc + 3) L S (am_wr w r (am_put fk (am_rd w r) (.ref x))) else none := by
  rw [am_o_putf hd hq hm]
  simp only [am_fits_ref ht, and_true]
theorem am_o_putZ {i r : Nat} {x : Int32} {ci fk ps : Nat} {nb : Bool} (hd : decode M.2.2.1 pc = .ok (.putfield i, 3)) (hq : am_lq M.1 i am_tF = some (ci, fk, ps, nb)) (hm : am_mayF M ci fk = true) (ht : am_ty ci fk = .boolean) : am_EV X d M pc L (.int x :: .ref r :: S) w = if am_isF ci fk (am_rd w r) = true ∧ (x = 0 ∨ x = 1) then am_EV X d M (pc + 3) L S (am_wr w r (am_put fk (am_rd w r) (.int x))) else none := by
  rw [am_o_putf hd hq hm]
  simp only [am_fits_bool ht]
theorem am_o_newA8 {i p1 p2 p3 : Nat} {n : Int32} (hd : decode M.2.2.1 pc = .ok (.anewarray i, 3)) (hq : am_lq M.1 i am_tC = some (8, p1, p2, p3)) (hn : ¬ (n < 0 ∨ 1000 < n.toNatClampNeg)) : am_EV X d M pc L (.int n :: S) w = am_EV X d M (pc + 3) L (.ref w.1 :: S) (am_al w n.toNatClampNeg (.inl (3, n.toNatClampNeg, .inr (.inr (.inr (.inr (fun _ => none))))))) := (am_o_newA hd hq hn).1 rfl
theorem am_o_newA6 {i p1 p2 p3 : Nat} {n : Int32} (hd : decode M.2.2.1 pc = .ok (.anewarray i, 3)) (hq : am_lq M.1 i am_tC = some (6, p1, p2, p3)) (hn : ¬ (n < 0 ∨ 1000 < n.toNatClampNeg)) : am_EV X d M pc L (.int n :: S) w = am_EV X d M (pc + 3) L (.ref w.1 :: S) (am_al w n.toNatClampNeg (.inl (4, n.toNatClampNeg, .inr (.inr (.inr (.inr (fun _ => none))))))) := (am_o_newA hd hq hn).2 rfl
theorem am_ne {x k : Int32} (h : ¬ x = k) : x.toInt ≠ k.toInt := fun e => h (Int32.toInt_inj.mp e)
theorem am_o_ifeq {off : Int} {t : Nat} {x : Int32} (hd : decode M.2.2.1 pc = .ok (.ifCond .eq off, 3)) (ht : (pc : Int) + off = (t : Int)) : am_EV X d M pc L (.int x :: S) w = if x = 0 then am_EV X d M t L S w else am_EV X d M (pc + 3) L S w := (am_o_if hd ht).trans am_c_eq
theorem am_o_ifne {off : Int} {t : Nat} {x : Int32} (hd : decode M.2.2.1 pc = .ok (.ifCond .ne off, 3)) (ht : (pc : Int) + off = (t : Int)) : am_EV X d M pc L (.int x :: S) w = if x = 0 then am_EV X d M (pc + 3) L S w else am_EV X d M t L S w := (am_o_if hd ht).trans am_c_ne
theorem am_o_iflt {off : Int} {t : Nat} {x : Int32} (hd : decode M.2.2.1 pc = .ok (.ifCond .lt off, 3)) (ht : (pc : Int) + off = (t : Int)) : am_EV X d M pc L (.int x :: S) w = if x < 0 then am_EV X d M t L S w else am_EV X d M (pc + 3) L S w := (am_o_if hd ht).trans am_c_lt
theorem am_o_ifge {off : Int} {t : Nat} {x : Int32} (hd : decode M.2.2.1 pc = .ok (.ifCond .ge off, 3)) (ht : (pc : Int) + off = (t : Int)) : am_EV X d M pc L (.int x :: S) w = if x < 0 then am_EV X d M (pc + 3) L S w else am_EV X d M t L S w := (am_o_if hd ht).trans am_c_ge
theorem am_o_ifgt {off : Int} {t : Nat} {x : Int32} (hd : decode M.2.2.1 pc = .ok (.ifCond .gt off, 3)) (ht : (pc : Int) + off = (t : Int)) : am_EV X d M pc L (.int x :: S) w = if 0 < x then am_EV X d M t L S w else am_EV X d M (pc + 3) L S w := (am_o_if hd ht).trans am_c_gt
theorem am_o_ifle {off : Int} {t : Nat} {x : Int32} (hd : decode M.2.2.1 pc = .ok (.ifCond .le off, 3)) (ht : (pc : Int) + off = (t : Int)) : am_EV X d M pc L (.int x :: S) w = if 0 < x then am_EV X d M (pc + 3) L S w else am_EV X d M t L S w := (am_o_if hd ht).trans am_c_le
theorem am_o_iceq {off : Int} {t : Nat} {x y : Int32} (hd : decode M.2.2.1 pc = .ok (.if_icmp .eq off, 3)) (ht : (pc : Int) + off = (t : Int)) : am_EV X d M pc L (.int y :: .int x :: S) w = if x = y then am_EV X d M t L S w else am_EV X d M (pc + 3) L S w := (am_o_ic hd ht).trans am_c_eq
theorem am_o_icne {off : Int} {t : Nat} {x y : Int32} (hd : decode M.2.2.1 pc = .ok (.if_icmp .ne off, 3)) (ht : (pc : Int) + off = (t : Int)) : am_EV X d M pc L (.int y :: .int x :: S) w = if x = y then am_EV X d M (pc + 3) L S w else am_EV X d M t L S w := (am_o_ic hd ht).trans am_c_ne
theorem am_o_iclt {off : Int} {t : Nat} {x y : Int32} (hd : decode M.2.2.1 pc = .ok (.if_icmp .lt off, 3)) (ht : (pc : Int) + off = (t : Int)) : am_EV X d M pc L (.int y :: .int x :: S) w = if x < y then am_EV X d M t L S w else am_EV X d M (pc + 3) L S w := (am_o_ic hd ht).trans am_c_lt
theorem am_o_icge {off : Int} {t : Nat} {x y : Int32} (hd : decode M.2.2.1 pc = .ok (.if_icmp .ge off, 3)) (ht : (pc : Int) + off = (t : Int)) : am_EV X d M pc L (.int y :: .int x :: S) w = if x < y then am_EV X d M (pc + 3) L S w else am_EV X d M t L S w := (am_o_ic hd ht).trans am_c_ge
theorem am_o_icgt {off : Int} {t : Nat} {x y : Int32} (hd : decode M.2.2.1 pc = .ok (.if_icmp .gt off, 3)) (ht : (pc : Int) + off = (t : Int)) : am_EV X d M pc L (.int y :: .int x :: S) w = if y < x then am_EV X d M t L S w else am_EV X d M (pc + 3) L S w := (am_o_ic hd ht).trans am_c_gt
theorem am_o_icle {off : Int} {t : Nat} {x y : Int32} (hd : decode M.2.2.1 pc = .ok (.if_icmp .le off, 3)) (ht : (pc : Int) + off = (t : Int)) : am_EV X d M pc L (.int y :: .int x :: S) w = if y < x then am_EV X d M (pc + 3) L S w else am_EV X d M t L S w := (am_o_ic hd ht).trans am_c_le
end AMP

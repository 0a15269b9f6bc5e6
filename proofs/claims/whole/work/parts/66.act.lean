/-! act: LADLES' bodies -/
section AC
variable {X : Nat × (Nat → Int32)} {d : Nat} {I A : TI} {J : TJ} {w : am_W}
def actN : List Nat := [1, 10, 11, 2, 20, 0, 0, 0, 0, 30, 0, 0, 0, 41, 40, 0, 0, 0, 50, 0, 0, 0, 0, 60, 70, 0, 0, 0, 0, 80, 0, 81]
def upN : List Nat := [0, 0, 0, 2, 1, 3, 0, 4]
def actAt (k a : Nat) : Nat := actN.getD (4 * k + a) 0
def upAt (k : Nat) : Nat := upN.getD k 0
/-- the kind whose body is found -/
def owF : Nat → Nat → Nat → Nat
  | 0, k, _ => k
  | f + 1, k, a => if actAt k a = 0 then owF f (upAt k) a else k
def ow (k a : Nat) : Nat := owF 8 k a
def bd (k a : Nat) : Nat := actAt (ow k a) a
theorem bd_b : (List.range 8).all (fun k => (List.range 4).all (fun a => decide (ow k a < 8) && (bd k a == 1 || (bd k a == 2 || (bd k a == 10 || (bd k a == 11 || ((bd k a == 20 && upAt (ow k a) == 0) || ((bd k a == 30 && upAt (ow k a) == 0) || ((bd k a == 40 && upAt (ow k a) == 2) || ((bd k a == 41 && upAt (ow k a) == 2) || ((bd k a == 50 && upAt (ow k a) == 1) || ((bd k a == 60 && upAt (ow k a) == 3) || ((bd k a == 70 && upAt (ow k a) == 0) || ((bd k a == 80 && upAt (ow k a) == 4) || (bd k a == 81 && upAt (ow k a) == 4))))))))))))))) = true := by decide +kernel
theorem bd_all : ∀ k, k < 8 → ∀ a, a < 4 → ow k a < 8 ∧ (bd k a = 1 ∨ bd k a = 2 ∨ bd k a = 10 ∨ bd k a = 11 ∨ (bd k a = 20 ∧ upAt (ow k a) = 0) ∨ (bd k a = 30 ∧ upAt (ow k a) = 0) ∨ (bd k a = 40 ∧ upAt (ow k a) = 2) ∨ (bd k a = 41 ∧ upAt (ow k a) = 2) ∨ (bd k a = 50 ∧ upAt (ow k a) = 1) ∨ (bd k a = 60 ∧ upAt (ow k a) = 3) ∨ (bd k a = 70 ∧ upAt (ow k a) = 0) ∨ (bd k a = 80 ∧ upAt (ow k a) = 4) ∨ (bd k a = 81 ∧ upAt (ow k a) = 4)) := by
  intro k hk a ha
  have := List.all_eq_true.mp (List.all_eq_true.mp bd_b k (List.mem_range.mpr hk)) a (List.mem_range.mpr ha)
  simpa only [Bool.and_eq_true, Bool.or_eq_true, beq_iff_eq, decide_eq_true_eq] using this
abbrev AS : Type := Nat × (Nat → Int32)
def beg (r : Nat) (s : AS) : AS := (s.1 + 1, if s.1 < 24 then upd s.2 s.1 (nI r) else s.2)
/-- a body by its number: kd the ladle's kind, n its number -/
def rnF (kd : Nat) (n : Int32) : Nat → Nat → Nat → Int32 → AS → Int32 × AS
  | 0, _, _, _, s => (0, s)
  | f + 1, k, a, x, s0 =>
    let s := beg (bd k a) s0
    if bd k a = 1 then (x + n, s)
    else if bd k a = 2 then ((rnF kd n f kd 1 x s).1 - (rnF kd n f kd 2 1 (rnF kd n f kd 1 x s).2).1, (rnF kd n f kd 2 1 (rnF kd n f kd 1 x s).2).2)
    else if bd k a = 10 then ((rnF kd n f kd 0 x s).1 * 2, (rnF kd n f kd 0 x s).2)
    else if bd k a = 11 then (x ^^^ n, s)
    else if bd k a = 20 then ((rnF kd n f 0 0 x s).1 + 3, (rnF kd n f 0 0 x s).2)
    else if bd k a = 30 then (-(rnF kd n f 0 1 x s).1, (rnF kd n f 0 1 x s).2)
    else if bd k a = 40 then ((rnF kd n f 2 2 x s).1 * 3, (rnF kd n f 2 2 x s).2)
    else if bd k a = 41 then ((rnF kd n f 2 1 (x + 1) s).1, (rnF kd n f 2 1 (x + 1) s).2)
    else if bd k a = 50 then ((rnF kd n f 1 2 x s).1 - (rnF kd n f kd 0 2 (rnF kd n f 1 2 x s).2).1, (rnF kd n f kd 0 2 (rnF kd n f 1 2 x s).2).2)
    else if bd k a = 60 then ((rnF kd n f 3 3 x s).1 ^^^ 5, (rnF kd n f 3 3 x s).2)
    else if bd k a = 70 then ((rnF kd n f 0 0 x s).1 * 2, (rnF kd n f 0 0 x s).2)
    else if bd k a = 80 then ((rnF kd n f 4 1 x s).1 + (rnF kd n f kd 2 2 (rnF kd n f 4 1 x s).2).1, (rnF kd n f kd 2 2 (rnF kd n f 4 1 x s).2).2)
    else ((rnF kd n f 4 3 x s).1 - 1, (rnF kd n f 4 3 x s).2)
/-- how many bodies run; 1000 where it doesn't end in time -/
def cnF (kd : Nat) : Nat → Nat → Nat → Nat
  | 0, _, _ => 1000
  | f + 1, k, a =>
    if bd k a = 1 then 1
    else if bd k a = 2 then 1 + cnF kd f kd 1 + cnF kd f kd 2
    else if bd k a = 10 then 1 + cnF kd f kd 0
    else if bd k a = 11 then 1
    else if bd k a = 20 then 1 + cnF kd f 0 0
    else if bd k a = 30 then 1 + cnF kd f 0 1
    else if bd k a = 40 then 1 + cnF kd f 2 2
    else if bd k a = 41 then 1 + cnF kd f 2 1
    else if bd k a = 50 then 1 + cnF kd f 1 2 + cnF kd f kd 0
    else if bd k a = 60 then 1 + cnF kd f 3 3
    else if bd k a = 70 then 1 + cnF kd f 0 0
    else if bd k a = 80 then 1 + cnF kd f 4 1 + cnF kd f kd 2
    else 1 + cnF kd f 4 3
theorem cn_all : ∀ kd, kd < 8 → ∀ a, a < 4 → cnF kd 20 kd a < 900 := by decide +kernel

theorem rn_1 {kd k a f : Nat} {n x : Int32} {s : AS} (h : bd k a = 1) : rnF kd n (f + 1) k a x s = (x + n, beg 1 s) := by
  conv => lhs; unfold rnF
  simp only
  rw [if_pos h, h]
theorem cn_1 {kd k a f : Nat} (h : bd k a = 1) : cnF kd (f + 1) k a = 1 := by
  conv => lhs; unfold cnF
  rw [if_pos h]
theorem rn_2 {kd k a f : Nat} {n x : Int32} {s : AS} (h : bd k a = 2) : rnF kd n (f + 1) k a x s = ((rnF kd n f kd 1 x (beg 2 s)).1 - (rnF kd n f kd 2 1 (rnF kd n f kd 1 x (beg 2 s)).2).1, (rnF kd n f kd 2 1 (rnF kd n f kd 1 x (beg 2 s)).2).2) := by
  conv => lhs; unfold rnF
  simp only
  rw [if_neg (show ¬ bd k a = 1 by omega), if_pos h, h]
theorem cn_2 {kd k a f : Nat} (h : bd k a = 2) : cnF kd (f + 1) k a = 1 + cnF kd f kd 1 + cnF kd f kd 2 := by
  conv => lhs; unfold cnF
  rw [if_neg (show ¬ bd k a = 1 by omega), if_pos h]
theorem rn_10 {kd k a f : Nat} {n x : Int32} {s : AS} (h : bd k a = 10) : rnF kd n (f + 1) k a x s = ((rnF kd n f kd 0 x (beg 10 s)).1 * 2, (rnF kd n f kd 0 x (beg 10 s)).2) := by
  conv => lhs; unfold rnF
  simp only
  rw [if_neg (show ¬ bd k a = 1 by omega), if_neg (show ¬ bd k a = 2 by omega), if_pos h, h]
theorem cn_10 {kd k a f : Nat} (h : bd k a = 10) : cnF kd (f + 1) k a = 1 + cnF kd f kd 0 := by
  conv => lhs; unfold cnF
  rw [if_neg (show ¬ bd k a = 1 by omega), if_neg (show ¬ bd k a = 2 by omega), if_pos h]
theorem rn_11 {kd k a f : Nat} {n x : Int32} {s : AS} (h : bd k a = 11) : rnF kd n (f + 1) k a x s = (x ^^^ n, beg 11 s) := by
  conv => lhs; unfold rnF
  simp only
  rw [if_neg (show ¬ bd k a = 1 by omega), if_neg (show ¬ bd k a = 2 by omega), if_neg (show ¬ bd k a = 10 by omega), if_pos h, h]
theorem cn_11 {kd k a f : Nat} (h : bd k a = 11) : cnF kd (f + 1) k a = 1 := by
  conv => lhs; unfold cnF
  rw [if_neg (show ¬ bd k a = 1 by omega), if_neg (show ¬ bd k a = 2 by omega), if_neg (show ¬ bd k a = 10 by omega), if_pos h]
theorem rn_20 {kd k a f : Nat} {n x : Int32} {s : AS} (h : bd k a = 20) : rnF kd n (f + 1) k a x s = ((rnF kd n f 0 0 x (beg 20 s)).1 + 3, (rnF kd n f 0 0 x (beg 20 s)).2) := by
  conv => lhs; unfold rnF
  simp only
  rw [if_neg (show ¬ bd k a = 1 by omega), if_neg (show ¬ bd k a = 2 by omega), if_neg (show ¬ bd k a = 10 by omega), if_neg (show ¬ bd k a = 11 by omega), if_pos h, h]
theorem cn_20 {kd k a f : Nat} (h : bd k a = 20) : cnF kd (f + 1) k a = 1 + cnF kd f 0 0 := by
  conv => lhs; unfold cnF
  rw [if_neg (show ¬ bd k a = 1 by omega), if_neg (show ¬ bd k a = 2 by omega), if_neg (show ¬ bd k a = 10 by omega), if_neg (show ¬ bd k a = 11 by omega), if_pos h]
theorem rn_30 {kd k a f : Nat} {n x : Int32} {s : AS} (h : bd k a = 30) : rnF kd n (f + 1) k a x s = (-(rnF kd n f 0 1 x (beg 30 s)).1, (rnF kd n f 0 1 x (beg 30 s)).2) := by
  conv => lhs; unfold rnF
  simp only
  rw [if_neg (show ¬ bd k a = 1 by omega), if_neg (show ¬ bd k a = 2 by omega), if_neg (show ¬ bd k a = 10 by omega), if_neg (show ¬ bd k a = 11 by omega), if_neg (show ¬ bd k a = 20 by omega), if_pos h, h]
theorem cn_30 {kd k a f : Nat} (h : bd k a = 30) : cnF kd (f + 1) k a = 1 + cnF kd f 0 1 := by
  conv => lhs; unfold cnF
  rw [if_neg (show ¬ bd k a = 1 by omega), if_neg (show ¬ bd k a = 2 by omega), if_neg (show ¬ bd k a = 10 by omega), if_neg (show ¬ bd k a = 11 by omega), if_neg (show ¬ bd k a = 20 by omega), if_pos h]
theorem rn_40 {kd k a f : Nat} {n x : Int32} {s : AS} (h : bd k a = 40) : rnF kd n (f + 1) k a x s = ((rnF kd n f 2 2 x (beg 40 s)).1 * 3, (rnF kd n f 2 2 x (beg 40 s)).2) := by
  conv => lhs; unfold rnF
  simp only
  rw [if_neg (show ¬ bd k a = 1 by omega), if_neg (show ¬ bd k a = 2 by omega), if_neg (show ¬ bd k a = 10 by omega), if_neg (show ¬ bd k a = 11 by omega), if_neg (show ¬ bd k a = 20 by omega), if_neg (show ¬ bd k a = 30 by omega), if_pos h, h]
theorem cn_40 {kd k a f : Nat} (h : bd k a = 40) : cnF kd (f + 1) k a = 1 + cnF kd f 2 2 := by
  conv => lhs; unfold cnF
  rw [if_neg (show ¬ bd k a = 1 by omega), if_neg (show ¬ bd k a = 2 by omega), if_neg (show ¬ bd k a = 10 by omega), if_neg (show ¬ bd k a = 11 by omega), if_neg (show ¬ bd k a = 20 by omega), if_neg (show ¬ bd k a = 30 by omega), if_pos h]
theorem rn_41 {kd k a f : Nat} {n x : Int32} {s : AS} (h : bd k a = 41) : rnF kd n (f + 1) k a x s = ((rnF kd n f 2 1 (x + 1) (beg 41 s)).1, (rnF kd n f 2 1 (x + 1) (beg 41 s)).2) := by
  conv => lhs; unfold rnF
  simp only
  rw [if_neg (show ¬ bd k a = 1 by omega), if_neg (show ¬ bd k a = 2 by omega), if_neg (show ¬ bd k a = 10 by omega), if_neg (show ¬ bd k a = 11 by omega), if_neg (show ¬ bd k a = 20 by omega), if_neg (show ¬ bd k a = 30 by omega), if_neg (show ¬ bd k a = 40 by omega), if_pos h, h]
theorem cn_41 {kd k a f : Nat} (h : bd k a = 41) : cnF kd (f + 1) k a = 1 + cnF kd f 2 1 := by
  conv => lhs; unfold cnF
  rw [if_neg (show ¬ bd k a = 1 by omega), if_neg (show ¬ bd k a = 2 by omega), if_neg (show ¬ bd k a = 10 by omega), if_neg (show ¬ bd k a = 11 by omega), if_neg (show ¬ bd k a = 20 by omega), if_neg (show ¬ bd k a = 30 by omega), if_neg (show ¬ bd k a = 40 by omega), if_pos h]
theorem rn_50 {kd k a f : Nat} {n x : Int32} {s : AS} (h : bd k a = 50) : rnF kd n (f + 1) k a x s = ((rnF kd n f 1 2 x (beg 50 s)).1 - (rnF kd n f kd 0 2 (rnF kd n f 1 2 x (beg 50 s)).2).1, (rnF kd n f kd 0 2 (rnF kd n f 1 2 x (beg 50 s)).2).2) := by
  conv => lhs; unfold rnF
  simp only
  rw [if_neg (show ¬ bd k a = 1 by omega), if_neg (show ¬ bd k a = 2 by omega), if_neg (show ¬ bd k a = 10 by omega), if_neg (show ¬ bd k a = 11 by omega), if_neg (show ¬ bd k a = 20 by omega), if_neg (show ¬ bd k a = 30 by omega), if_neg (show ¬ bd k a = 40 by omega), if_neg (show ¬ bd k a = 41 by omega), if_pos h, h]
theorem cn_50 {kd k a f : Nat} (h : bd k a = 50) : cnF kd (f + 1) k a = 1 + cnF kd f 1 2 + cnF kd f kd 0 := by
  conv => lhs; unfold cnF
  rw [if_neg (show ¬ bd k a = 1 by omega), if_neg (show ¬ bd k a = 2 by omega), if_neg (show ¬ bd k a = 10 by omega), if_neg (show ¬ bd k a = 11 by omega), if_neg (show ¬ bd k a = 20 by omega), if_neg (show ¬ bd k a = 30 by omega), if_neg (show ¬ bd k a = 40 by omega), if_neg (show ¬ bd k a = 41 by omega), if_pos h]
theorem rn_60 {kd k a f : Nat} {n x : Int32} {s : AS} (h : bd k a = 60) : rnF kd n (f + 1) k a x s = ((rnF kd n f 3 3 x (beg 60 s)).1 ^^^ 5, (rnF kd n f 3 3 x (beg 60 s)).2) := by
  conv => lhs; unfold rnF
  simp only
  rw [if_neg (show ¬ bd k a = 1 by omega), if_neg (show ¬ bd k a = 2 by omega), if_neg (show ¬ bd k a = 10 by omega), if_neg (show ¬ bd k a = 11 by omega), if_neg (show ¬ bd k a = 20 by omega), if_neg (show ¬ bd k a = 30 by omega), if_neg (show ¬ bd k a = 40 by omega), if_neg (show ¬ bd k a = 41 by omega), if_neg (show ¬ bd k a = 50 by omega), if_pos h, h]
theorem cn_60 {kd k a f : Nat} (h : bd k a = 60) : cnF kd (f + 1) k a = 1 + cnF kd f 3 3 := by
  conv => lhs; unfold cnF
  rw [if_neg (show ¬ bd k a = 1 by omega), if_neg (show ¬ bd k a = 2 by omega), if_neg (show ¬ bd k a = 10 by omega), if_neg (show ¬ bd k a = 11 by omega), if_neg (show ¬ bd k a = 20 by omega), if_neg (show ¬ bd k a = 30 by omega), if_neg (show ¬ bd k a = 40 by omega), if_neg (show ¬ bd k a = 41 by omega), if_neg (show ¬ bd k a = 50 by omega), if_pos h]
theorem rn_70 {kd k a f : Nat} {n x : Int32} {s : AS} (h : bd k a = 70) : rnF kd n (f + 1) k a x s = ((rnF kd n f 0 0 x (beg 70 s)).1 * 2, (rnF kd n f 0 0 x (beg 70 s)).2) := by
  conv => lhs; unfold rnF
  simp only
  rw [if_neg (show ¬ bd k a = 1 by omega), if_neg (show ¬ bd k a = 2 by omega), if_neg (show ¬ bd k a = 10 by omega), if_neg (show ¬ bd k a = 11 by omega), if_neg (show ¬ bd k a = 20 by omega), if_neg (show ¬ bd k a = 30 by omega), if_neg (show ¬ bd k a = 40 by omega), if_neg (show ¬ bd k a = 41 by omega), if_neg (show ¬ bd k a = 50 by omega), if_neg (show ¬ bd k a = 60 by omega), if_pos h, h]
theorem cn_70 {kd k a f : Nat} (h : bd k a = 70) : cnF kd (f + 1) k a = 1 + cnF kd f 0 0 := by
  conv => lhs; unfold cnF
  rw [if_neg (show ¬ bd k a = 1 by omega), if_neg (show ¬ bd k a = 2 by omega), if_neg (show ¬ bd k a = 10 by omega), if_neg (show ¬ bd k a = 11 by omega), if_neg (show ¬ bd k a = 20 by omega), if_neg (show ¬ bd k a = 30 by omega), if_neg (show ¬ bd k a = 40 by omega), if_neg (show ¬ bd k a = 41 by omega), if_neg (show ¬ bd k a = 50 by omega), if_neg (show ¬ bd k a = 60 by omega), if_pos h]
theorem rn_80 {kd k a f : Nat} {n x : Int32} {s : AS} (h : bd k a = 80) : rnF kd n (f + 1) k a x s = ((rnF kd n f 4 1 x (beg 80 s)).1 + (rnF kd n f kd 2 2 (rnF kd n f 4 1 x (beg 80 s)).2).1, (rnF kd n f kd 2 2 (rnF kd n f 4 1 x (beg 80 s)).2).2) := by
  conv => lhs; unfold rnF
  simp only
  rw [if_neg (show ¬ bd k a = 1 by omega), if_neg (show ¬ bd k a = 2 by omega), if_neg (show ¬ bd k a = 10 by omega), if_neg (show ¬ bd k a = 11 by omega), if_neg (show ¬ bd k a = 20 by omega), if_neg (show ¬ bd k a = 30 by omega), if_neg (show ¬ bd k a = 40 by omega), if_neg (show ¬ bd k a = 41 by omega), if_neg (show ¬ bd k a = 50 by omega), if_neg (show ¬ bd k a = 60 by omega), if_neg (show ¬ bd k a = 70 by omega), if_pos h, h]
theorem cn_80 {kd k a f : Nat} (h : bd k a = 80) : cnF kd (f + 1) k a = 1 + cnF kd f 4 1 + cnF kd f kd 2 := by
  conv => lhs; unfold cnF
  rw [if_neg (show ¬ bd k a = 1 by omega), if_neg (show ¬ bd k a = 2 by omega), if_neg (show ¬ bd k a = 10 by omega), if_neg (show ¬ bd k a = 11 by omega), if_neg (show ¬ bd k a = 20 by omega), if_neg (show ¬ bd k a = 30 by omega), if_neg (show ¬ bd k a = 40 by omega), if_neg (show ¬ bd k a = 41 by omega), if_neg (show ¬ bd k a = 50 by omega), if_neg (show ¬ bd k a = 60 by omega), if_neg (show ¬ bd k a = 70 by omega), if_pos h]
theorem rn_81 {kd k a f : Nat} {n x : Int32} {s : AS} (h : bd k a = 81) : rnF kd n (f + 1) k a x s = ((rnF kd n f 4 3 x (beg 81 s)).1 - 1, (rnF kd n f 4 3 x (beg 81 s)).2) := by
  conv => lhs; unfold rnF
  simp only
  rw [if_neg (show ¬ bd k a = 1 by omega), if_neg (show ¬ bd k a = 2 by omega), if_neg (show ¬ bd k a = 10 by omega), if_neg (show ¬ bd k a = 11 by omega), if_neg (show ¬ bd k a = 20 by omega), if_neg (show ¬ bd k a = 30 by omega), if_neg (show ¬ bd k a = 40 by omega), if_neg (show ¬ bd k a = 41 by omega), if_neg (show ¬ bd k a = 50 by omega), if_neg (show ¬ bd k a = 60 by omega), if_neg (show ¬ bd k a = 70 by omega), if_neg (show ¬ bd k a = 80 by omega), h]
theorem cn_81 {kd k a f : Nat} (h : bd k a = 81) : cnF kd (f + 1) k a = 1 + cnF kd f 4 3 := by
  conv => lhs; unfold cnF
  rw [if_neg (show ¬ bd k a = 1 by omega), if_neg (show ¬ bd k a = 2 by omega), if_neg (show ¬ bd k a = 10 by omega), if_neg (show ¬ bd k a = 11 by omega), if_neg (show ¬ bd k a = 20 by omega), if_neg (show ¬ bd k a = 30 by omega), if_neg (show ¬ bd k a = 40 by omega), if_neg (show ¬ bd k a = 41 by omega), if_neg (show ¬ bd k a = 50 by omega), if_neg (show ¬ bd k a = 60 by omega), if_neg (show ¬ bd k a = 70 by omega), if_neg (show ¬ bd k a = 80 by omega)]
theorem rn_cn (kd : Nat) (hkd : kd < 8) (n : Int32) : ∀ (f k a : Nat) (x : Int32) (s : AS), k < 8 → a < 4 → cnF kd f k a < 1000 → (rnF kd n f k a x s).2.1 = s.1 + cnF kd f k a := by
  intro f
  induction f with
  | zero => intro k a x s hk ha h; exact absurd h (Nat.lt_irrefl 1000)
  | succ f ih =>
    intro k a x s hk ha hh
    rcases (bd_all k hk a ha).2 with h | h | h | h | ⟨h, hu⟩ | ⟨h, hu⟩ | ⟨h, hu⟩ | ⟨h, hu⟩ | ⟨h, hu⟩ | ⟨h, hu⟩ | ⟨h, hu⟩ | ⟨h, hu⟩ | ⟨h, hu⟩
    · have e := cn_1 (kd := kd) (f := f) h
      rw [e] at hh
      rw [rn_1 h, e]
      rfl
    · have e := cn_2 (kd := kd) (f := f) h
      rw [e] at hh
      rw [rn_2 h, e]
      rw [show ∀ (u : Int32) (v : AS), (u, v).2.1 = v.1 from fun _ _ => rfl, ih _ _ _ _ (by omega) (by omega) (by omega), ih _ _ _ _ (by omega) (by omega) (by omega)]
      show s.1 + 1 + _ + _ = _
      omega
    · have e := cn_10 (kd := kd) (f := f) h
      rw [e] at hh
      rw [rn_10 h, e]
      rw [show ∀ (u : Int32) (v : AS), (u, v).2.1 = v.1 from fun _ _ => rfl, ih _ _ _ _ (by omega) (by omega) (by omega)]
      show s.1 + 1 + _ = _
      omega
    · have e := cn_11 (kd := kd) (f := f) h
      rw [e] at hh
      rw [rn_11 h, e]
      rfl
    · have e := cn_20 (kd := kd) (f := f) h
      rw [e] at hh
      rw [rn_20 h, e]
      rw [show ∀ (u : Int32) (v : AS), (u, v).2.1 = v.1 from fun _ _ => rfl, ih _ _ _ _ (by omega) (by omega) (by omega)]
      show s.1 + 1 + _ = _
      omega
    · have e := cn_30 (kd := kd) (f := f) h
      rw [e] at hh
      rw [rn_30 h, e]
      rw [show ∀ (u : Int32) (v : AS), (u, v).2.1 = v.1 from fun _ _ => rfl, ih _ _ _ _ (by omega) (by omega) (by omega)]
      show s.1 + 1 + _ = _
      omega
    · have e := cn_40 (kd := kd) (f := f) h
      rw [e] at hh
      rw [rn_40 h, e]
      rw [show ∀ (u : Int32) (v : AS), (u, v).2.1 = v.1 from fun _ _ => rfl, ih _ _ _ _ (by omega) (by omega) (by omega)]
      show s.1 + 1 + _ = _
      omega
    · have e := cn_41 (kd := kd) (f := f) h
      rw [e] at hh
      rw [rn_41 h, e]
      rw [show ∀ (u : Int32) (v : AS), (u, v).2.1 = v.1 from fun _ _ => rfl, ih _ _ _ _ (by omega) (by omega) (by omega)]
      show s.1 + 1 + _ = _
      omega
    · have e := cn_50 (kd := kd) (f := f) h
      rw [e] at hh
      rw [rn_50 h, e]
      rw [show ∀ (u : Int32) (v : AS), (u, v).2.1 = v.1 from fun _ _ => rfl, ih _ _ _ _ (by omega) (by omega) (by omega), ih _ _ _ _ (by omega) (by omega) (by omega)]
      show s.1 + 1 + _ + _ = _
      omega
    · have e := cn_60 (kd := kd) (f := f) h
      rw [e] at hh
      rw [rn_60 h, e]
      rw [show ∀ (u : Int32) (v : AS), (u, v).2.1 = v.1 from fun _ _ => rfl, ih _ _ _ _ (by omega) (by omega) (by omega)]
      show s.1 + 1 + _ = _
      omega
    · have e := cn_70 (kd := kd) (f := f) h
      rw [e] at hh
      rw [rn_70 h, e]
      rw [show ∀ (u : Int32) (v : AS), (u, v).2.1 = v.1 from fun _ _ => rfl, ih _ _ _ _ (by omega) (by omega) (by omega)]
      show s.1 + 1 + _ = _
      omega
    · have e := cn_80 (kd := kd) (f := f) h
      rw [e] at hh
      rw [rn_80 h, e]
      rw [show ∀ (u : Int32) (v : AS), (u, v).2.1 = v.1 from fun _ _ => rfl, ih _ _ _ _ (by omega) (by omega) (by omega), ih _ _ _ _ (by omega) (by omega) (by omega)]
      show s.1 + 1 + _ + _ = _
      omega
    · have e := cn_81 (kd := kd) (f := f) h
      rw [e] at hh
      rw [rn_81 h, e]
      rw [show ∀ (u : Int32) (v : AS), (u, v).2.1 = v.1 from fun _ _ => rfl, ih _ _ _ _ (by omega) (by omega) (by omega)]
      show s.1 + 1 + _ = _
      omega
end AC

/-! WHAT JOINS CLASS AND REFERENCE -/
def in09 (x : Int32) : Prop := ¬ x < 0 ∧ ¬ 9 < x
def in99 (x : Int32) : Prop := ¬ x < 0 ∧ ¬ 99 < x
def rHou (a b : Int32) : Prop := ∃ h : Nat, h ≤ 6 ∧ a = nI h ∧ b = nI h
def rNos (sz : Int32) (kn wh : Nat → Int32) (rz : Int32) (nu : Nat → Int32) : Prop := (∃ z : Nat, z ≤ 8 ∧ sz = nI z ∧ rz = nI z) ∧ ∀ j, j < 8 → kn j = nu (88 + j) ∧ wh j = nu (96 + j)
def rStr (st nu : Nat → Int32) : Prop := ∀ j, j < 40 → st j = nu j
def rHas (ha nu : Nat → Int32) : Prop := ∀ j, j < 48 → ha j = nu (40 + j) ∧ in09 (ha j)
def rFir (f : Int32) (nu : Nat → Int32) : Prop := f = nu 104
/-- where a number that can be told stands in the reference's row -/
def lcN (h z : Nat) (n q : Int32) : Option Nat := if n < 0 then none else
  if q = 0 then (if n.toNatClampNeg / 10 < 8 ∧ n.toNatClampNeg % 10 < 5 then some (5 * (n.toNatClampNeg / 10) + n.toNatClampNeg % 10) else none)
  else if q = 1 then (if n.toNatClampNeg / 10 < h ∧ n.toNatClampNeg % 10 < 8 then some (40 + 8 * (n.toNatClampNeg / 10) + n.toNatClampNeg % 10) else none)
  else if q = 2 then (if n.toNatClampNeg < z then some (88 + n.toNatClampNeg) else none)
  else if q = 3 then (if n.toNatClampNeg < z then some (96 + n.toNatClampNeg) else none)
  else if q = 4 then (if n.toNatClampNeg = 0 then some 104 else none) else none
def okV (p : Nat) (v : Int32) : Prop := 40 ≤ p → p < 88 → in09 v
def rChg (dn sz rd rk : Int32) (n q b e rc ro ry : Nat → Int32) (h z : Int32) : Prop := ∃ d s : Nat, d ≤ s ∧ s ≤ 40 ∧ dn = nI d ∧ sz = nI s ∧ rd = nI d ∧ rk = nI s ∧ ∀ j, j < s → b j = ro j ∧ e j = ry j ∧ ∃ p : Nat, lcN h.toNatClampNeg z.toNatClampNeg (n j) (q j) = some p ∧ rc j = nI p ∧ okV p (b j) ∧ okV p (e j)
def rTap (ln rl : Int32) (a ra : Nat → Int32) : Prop := ∃ n : Nat, n ≤ 120 ∧ ln = nI n ∧ rl = nI n ∧ ∀ j, j < n → a j = ra j ∧ ¬ a j < 0
/-- a pot: things, minutes, tastes, and the reference's row of fourteen -/
def rPot (th : Nat → Int32) (mi : Int32) (ta : Nat → Int32) (re : Nat → Int32) : Prop := (∀ j, j < 8 → th j = re j ∧ in09 (th j)) ∧ mi = re 8 ∧ in99 mi ∧ ∀ j, j < 5 → ta j = re (9 + j) ∧ in99 (ta j)
def rBoo (a b : Int32) : Prop := a = b ∧ (a = 0 ∨ a = 1)
def rLed (a b : Nat → Int32) : Prop := ∀ j, j < 5 → a j = b j
def rImg (hk rh : Int32) (ha rha : Nat → Int32) : Prop := ∃ h : Nat, h ≤ 6 ∧ hk = nI h ∧ rh = nI h ∧ ∀ j, j < 8 * h → ha j = rha j ∧ in09 (ha j)
def rLad (sz rs ran rr : Int32) (k rk t rt : Nat → Int32) : Prop := (∃ n : Nat, n ≤ 50 ∧ sz = nI n ∧ rs = nI n ∧ ∀ j, j < n → k j = rk j ∧ ∃ q : Nat, q < 8 ∧ k j = nI q) ∧ (∃ n : Nat, n ≤ 1000 ∧ ran = nI n ∧ rr = nI n) ∧ ∀ j, j < 24 → t j = rt j
/-- a shelf: holds, ladle, sort, length, elements; and the reference's kind, size, elements; how many bodies there are -/
def rShe (ho la so le rh rl : Int32) (el rel : Nat → Int64) (k : Nat) (bo : Int32) : Prop := ((ho = 0 ∧ rh = -1) ∨ (ho = 1 ∧ ∃ b : Nat, b < 50 ∧ la = nI b ∧ la < bo ∧ rh = nI (10 + b)) ∨ (ho = 2 ∧ ∃ s : Nat, s < 5 ∧ so = nI s ∧ rh = nI s)) ∧ (∃ n : Nat, n ≤ 60 ∧ le = nI n ∧ rl = nI n) ∧ ∀ j, j < 60 → el j = rel (60 * k + j)
def rShs (sh : Nat → Nat → Int32) (rh rl : Nat → Int32) (el : Nat → Nat → Int64) (rel : Nat → Int64) (bo : Int32) : Prop := ∀ k, k < 6 → rShe (sh k 0) (sh k 1) (sh k 2) (sh k 3) (rh k) (rl k) (el k) rel k bo
def rLoa (a : Nat → Int32) : Prop := ∀ j, j < 3 → a j = 0
def rCon (a b c : Nat → Int32) : Prop := (∀ j, j < 6 → a j = ([115, 116, 109, 102, 105, 119] : List Int32).getD j 0) ∧ (∀ j, j < 8 → b j = ([-1, 0, 0, 2, 1, 3, 0, 4] : List Int32).getD j 0) ∧ ∀ j, j < 32 → c j = (am_sA 5).getD j 0
def Rel (G : VF) (I A : TI) (J : TJ) : Prop := rHou (I 0 9) (I 81 1) ∧ rNos (I 36 2) (A 37) (A 38) (I 81 2) (A 82) ∧ rStr (A 13) (A 82) ∧ rHas (A 47) (A 82) ∧ rFir (I 6 2) (A 82) ∧ rChg (I 60 4) (I 60 5) (I 81 6) (I 81 7) (A 61) (A 62) (A 63) (A 64) (A 83) (A 84) (A 85) (I 0 9) (I 36 2) ∧ rTap (I 1 1) (I 81 9) (A 2) (A 86) ∧ cLaw G (A 8) (A 9) (A 10) (I 7 3) ∧ rLaw G (A 87) (I 81 11) (I 81 12) ∧ rPot (A 50) (I 49 2) (A 51) (A 105) ∧ rBoo (I 46 3) (I 81 37) ∧ rLed (A 48) (A 106) ∧ rBoo (I 0 11) (I 81 44) ∧ rImg (I 0 10) (I 81 42) (A 54) (A 107) ∧ rPot (A 57) (I 56 2) (A 58) (A 108) ∧ rBoo (I 53 3) (I 81 43) ∧ rLed (A 55) (A 109) ∧ rLad (I 65 1) (I 81 48) (I 65 3) (I 81 50) (A 66) (A 112) (A 67) (A 113) ∧ rShs (fun k => I (69 + 2 * k)) (A 95) (A 96) (fun k => J (70 + 2 * k)) (J 97) (I 65 1) ∧ rCon (A 90) (A 110) (A 111) ∧ rLoa (A 101)
section RL
variable {G : VF} {I A I1 A1 : TI} {J J1 : TJ} {li : List (Nat × Nat)} {la lj : List Nat}
theorem Rel.hou (h : Rel G I A J) : rHou (I 0 9) (I 81 1) := h.1
theorem Rel.nos (h : Rel G I A J) : rNos (I 36 2) (A 37) (A 38) (I 81 2) (A 82) := h.2.1
theorem Rel.str (h : Rel G I A J) : rStr (A 13) (A 82) := h.2.2.1
theorem Rel.has (h : Rel G I A J) : rHas (A 47) (A 82) := h.2.2.2.1
theorem Rel.fir (h : Rel G I A J) : rFir (I 6 2) (A 82) := h.2.2.2.2.1
theorem Rel.chg (h : Rel G I A J) : rChg (I 60 4) (I 60 5) (I 81 6) (I 81 7) (A 61) (A 62) (A 63) (A 64) (A 83) (A 84) (A 85) (I 0 9) (I 36 2) := h.2.2.2.2.2.1
theorem Rel.tap (h : Rel G I A J) : rTap (I 1 1) (I 81 9) (A 2) (A 86) := h.2.2.2.2.2.2.1
theorem Rel.lac (h : Rel G I A J) : cLaw G (A 8) (A 9) (A 10) (I 7 3) := h.2.2.2.2.2.2.2.1
theorem Rel.lar (h : Rel G I A J) : rLaw G (A 87) (I 81 11) (I 81 12) := h.2.2.2.2.2.2.2.2.1
theorem Rel.pot (h : Rel G I A J) : rPot (A 50) (I 49 2) (A 51) (A 105) := h.2.2.2.2.2.2.2.2.2.1
theorem Rel.isp (h : Rel G I A J) : rBoo (I 46 3) (I 81 37) := h.2.2.2.2.2.2.2.2.2.2.1
theorem Rel.led (h : Rel G I A J) : rLed (A 48) (A 106) := h.2.2.2.2.2.2.2.2.2.2.2.1
theorem Rel.isk (h : Rel G I A J) : rBoo (I 0 11) (I 81 44) := h.2.2.2.2.2.2.2.2.2.2.2.2.1
theorem Rel.img (h : Rel G I A J) : rImg (I 0 10) (I 81 42) (A 54) (A 107) := h.2.2.2.2.2.2.2.2.2.2.2.2.2.1
theorem Rel.kpo (h : Rel G I A J) : rPot (A 57) (I 56 2) (A 58) (A 108) := h.2.2.2.2.2.2.2.2.2.2.2.2.2.2.1
theorem Rel.kip (h : Rel G I A J) : rBoo (I 53 3) (I 81 43) := h.2.2.2.2.2.2.2.2.2.2.2.2.2.2.2.1
theorem Rel.kle (h : Rel G I A J) : rLed (A 55) (A 109) := h.2.2.2.2.2.2.2.2.2.2.2.2.2.2.2.2.1
theorem Rel.lad (h : Rel G I A J) : rLad (I 65 1) (I 81 48) (I 65 3) (I 81 50) (A 66) (A 112) (A 67) (A 113) := h.2.2.2.2.2.2.2.2.2.2.2.2.2.2.2.2.2.1
theorem Rel.shs (h : Rel G I A J) : rShs (fun k => I (69 + 2 * k)) (A 95) (A 96) (fun k => J (70 + 2 * k)) (J 97) (I 65 1) := h.2.2.2.2.2.2.2.2.2.2.2.2.2.2.2.2.2.2.1
theorem Rel.con (h : Rel G I A J) : rCon (A 90) (A 110) (A 111) := h.2.2.2.2.2.2.2.2.2.2.2.2.2.2.2.2.2.2.2.1
theorem Rel.loa (h : Rel G I A J) : rLoa (A 101) := h.2.2.2.2.2.2.2.2.2.2.2.2.2.2.2.2.2.2.2.2
theorem t_hou (f : Fr li la lj I A J I1 A1 J1) (q : ((0, 9) : Nat × Nat) ∉ li ∧ ((81, 1) : Nat × Nat) ∉ li) (h : rHou (I 0 9) (I 81 1)) : rHou (I1 0 9) (I1 81 1) := by rw [f.i 0 9 (q.1), f.i 81 1 (q.2)]; exact h
theorem t_nos (f : Fr li la lj I A J I1 A1 J1) (q : ((36, 2) : Nat × Nat) ∉ li ∧ ((81, 2) : Nat × Nat) ∉ li ∧ 37 ∉ la ∧ 38 ∉ la ∧ 82 ∉ la) (h : rNos (I 36 2) (A 37) (A 38) (I 81 2) (A 82)) : rNos (I1 36 2) (A1 37) (A1 38) (I1 81 2) (A1 82) := by rw [f.i 36 2 (q.1), f.i 81 2 (q.2.1), f.a 37 (q.2.2.1), f.a 38 (q.2.2.2.1), f.a 82 (q.2.2.2.2)]; exact h
theorem t_str (f : Fr li la lj I A J I1 A1 J1) (q : 13 ∉ la ∧ 82 ∉ la) (h : rStr (A 13) (A 82)) : rStr (A1 13) (A1 82) := by rw [f.a 13 (q.1), f.a 82 (q.2)]; exact h
theorem t_has (f : Fr li la lj I A J I1 A1 J1) (q : 47 ∉ la ∧ 82 ∉ la) (h : rHas (A 47) (A 82)) : rHas (A1 47) (A1 82) := by rw [f.a 47 (q.1), f.a 82 (q.2)]; exact h
theorem t_fir (f : Fr li la lj I A J I1 A1 J1) (q : ((6, 2) : Nat × Nat) ∉ li ∧ 82 ∉ la) (h : rFir (I 6 2) (A 82)) : rFir (I1 6 2) (A1 82) := by rw [f.i 6 2 (q.1), f.a 82 (q.2)]; exact h
theorem t_chg (f : Fr li la lj I A J I1 A1 J1) (q : ((60, 4) : Nat × Nat) ∉ li ∧ ((60, 5) : Nat × Nat) ∉ li ∧ ((81, 6) : Nat × Nat) ∉ li ∧ ((81, 7) : Nat × Nat) ∉ li ∧ ((0, 9) : Nat × Nat) ∉ li ∧ ((36, 2) : Nat × Nat) ∉ li ∧ 61 ∉ la ∧ 62 ∉ la ∧ 63 ∉ la ∧ 64 ∉ la ∧ 83 ∉ la ∧ 84 ∉ la ∧ 85 ∉ la) (h : rChg (I 60 4) (I 60 5) (I 81 6) (I 81 7) (A 61) (A 62) (A 63) (A 64) (A 83) (A 84) (A 85) (I 0 9) (I 36 2)) : rChg (I1 60 4) (I1 60 5) (I1 81 6) (I1 81 7) (A1 61) (A1 62) (A1 63) (A1 64) (A1 83) (A1 84) (A1 85) (I1 0 9) (I1 36 2) := by rw [f.i 60 4 (q.1), f.i 60 5 (q.2.1), f.i 81 6 (q.2.2.1), f.i 81 7 (q.2.2.2.1), f.i 0 9 (q.2.2.2.2.1), f.i 36 2 (q.2.2.2.2.2.1), f.a 61 (q.2.2.2.2.2.2.1), f.a 62 (q.2.2.2.2.2.2.2.1), f.a 63 (q.2.2.2.2.2.2.2.2.1), f.a 64 (q.2.2.2.2.2.2.2.2.2.1), f.a 83 (q.2.2.2.2.2.2.2.2.2.2.1), f.a 84 (q.2.2.2.2.2.2.2.2.2.2.2.1), f.a 85 (q.2.2.2.2.2.2.2.2.2.2.2.2)]; exact h
theorem t_tap (f : Fr li la lj I A J I1 A1 J1) (q : ((1, 1) : Nat × Nat) ∉ li ∧ ((81, 9) : Nat × Nat) ∉ li ∧ 2 ∉ la ∧ 86 ∉ la) (h : rTap (I 1 1) (I 81 9) (A 2) (A 86)) : rTap (I1 1 1) (I1 81 9) (A1 2) (A1 86) := by rw [f.i 1 1 (q.1), f.i 81 9 (q.2.1), f.a 2 (q.2.2.1), f.a 86 (q.2.2.2)]; exact h
theorem t_lac (f : Fr li la lj I A J I1 A1 J1) (q : ((7, 3) : Nat × Nat) ∉ li ∧ 8 ∉ la ∧ 9 ∉ la ∧ 10 ∉ la) (h : cLaw G (A 8) (A 9) (A 10) (I 7 3)) : cLaw G (A1 8) (A1 9) (A1 10) (I1 7 3) := by rw [f.i 7 3 (q.1), f.a 8 (q.2.1), f.a 9 (q.2.2.1), f.a 10 (q.2.2.2)]; exact h
theorem t_lar (f : Fr li la lj I A J I1 A1 J1) (q : ((81, 11) : Nat × Nat) ∉ li ∧ ((81, 12) : Nat × Nat) ∉ li ∧ 87 ∉ la) (h : rLaw G (A 87) (I 81 11) (I 81 12)) : rLaw G (A1 87) (I1 81 11) (I1 81 12) := by rw [f.i 81 11 (q.1), f.i 81 12 (q.2.1), f.a 87 (q.2.2)]; exact h
theorem t_pot (f : Fr li la lj I A J I1 A1 J1) (q : ((49, 2) : Nat × Nat) ∉ li ∧ 50 ∉ la ∧ 51 ∉ la ∧ 105 ∉ la) (h : rPot (A 50) (I 49 2) (A 51) (A 105)) : rPot (A1 50) (I1 49 2) (A1 51) (A1 105) := by rw [f.i 49 2 (q.1), f.a 50 (q.2.1), f.a 51 (q.2.2.1), f.a 105 (q.2.2.2)]; exact h
theorem t_isp (f : Fr li la lj I A J I1 A1 J1) (q : ((46, 3) : Nat × Nat) ∉ li ∧ ((81, 37) : Nat × Nat) ∉ li) (h : rBoo (I 46 3) (I 81 37)) : rBoo (I1 46 3) (I1 81 37) := by rw [f.i 46 3 (q.1), f.i 81 37 (q.2)]; exact h
theorem t_led (f : Fr li la lj I A J I1 A1 J1) (q : 48 ∉ la ∧ 106 ∉ la) (h : rLed (A 48) (A 106)) : rLed (A1 48) (A1 106) := by rw [f.a 48 (q.1), f.a 106 (q.2)]; exact h
theorem t_isk (f : Fr li la lj I A J I1 A1 J1) (q : ((0, 11) : Nat × Nat) ∉ li ∧ ((81, 44) : Nat × Nat) ∉ li) (h : rBoo (I 0 11) (I 81 44)) : rBoo (I1 0 11) (I1 81 44) := by rw [f.i 0 11 (q.1), f.i 81 44 (q.2)]; exact h
theorem t_img (f : Fr li la lj I A J I1 A1 J1) (q : ((0, 10) : Nat × Nat) ∉ li ∧ ((81, 42) : Nat × Nat) ∉ li ∧ 54 ∉ la ∧ 107 ∉ la) (h : rImg (I 0 10) (I 81 42) (A 54) (A 107)) : rImg (I1 0 10) (I1 81 42) (A1 54) (A1 107) := by rw [f.i 0 10 (q.1), f.i 81 42 (q.2.1), f.a 54 (q.2.2.1), f.a 107 (q.2.2.2)]; exact h
theorem t_kpo (f : Fr li la lj I A J I1 A1 J1) (q : ((56, 2) : Nat × Nat) ∉ li ∧ 57 ∉ la ∧ 58 ∉ la ∧ 108 ∉ la) (h : rPot (A 57) (I 56 2) (A 58) (A 108)) : rPot (A1 57) (I1 56 2) (A1 58) (A1 108) := by rw [f.i 56 2 (q.1), f.a 57 (q.2.1), f.a 58 (q.2.2.1), f.a 108 (q.2.2.2)]; exact h
theorem t_kip (f : Fr li la lj I A J I1 A1 J1) (q : ((53, 3) : Nat × Nat) ∉ li ∧ ((81, 43) : Nat × Nat) ∉ li) (h : rBoo (I 53 3) (I 81 43)) : rBoo (I1 53 3) (I1 81 43) := by rw [f.i 53 3 (q.1), f.i 81 43 (q.2)]; exact h
theorem t_kle (f : Fr li la lj I A J I1 A1 J1) (q : 55 ∉ la ∧ 109 ∉ la) (h : rLed (A 55) (A 109)) : rLed (A1 55) (A1 109) := by rw [f.a 55 (q.1), f.a 109 (q.2)]; exact h
theorem t_lad (f : Fr li la lj I A J I1 A1 J1) (q : ((65, 1) : Nat × Nat) ∉ li ∧ ((81, 48) : Nat × Nat) ∉ li ∧ ((65, 3) : Nat × Nat) ∉ li ∧ ((81, 50) : Nat × Nat) ∉ li ∧ 66 ∉ la ∧ 112 ∉ la ∧ 67 ∉ la ∧ 113 ∉ la) (h : rLad (I 65 1) (I 81 48) (I 65 3) (I 81 50) (A 66) (A 112) (A 67) (A 113)) : rLad (I1 65 1) (I1 81 48) (I1 65 3) (I1 81 50) (A1 66) (A1 112) (A1 67) (A1 113) := by rw [f.i 65 1 (q.1), f.i 81 48 (q.2.1), f.i 65 3 (q.2.2.1), f.i 81 50 (q.2.2.2.1), f.a 66 (q.2.2.2.2.1), f.a 112 (q.2.2.2.2.2.1), f.a 67 (q.2.2.2.2.2.2.1), f.a 113 (q.2.2.2.2.2.2.2)]; exact h
theorem t_con (f : Fr li la lj I A J I1 A1 J1) (q : 90 ∉ la ∧ 110 ∉ la ∧ 111 ∉ la) (h : rCon (A 90) (A 110) (A 111)) : rCon (A1 90) (A1 110) (A1 111) := by rw [f.a 90 (q.1), f.a 110 (q.2.1), f.a 111 (q.2.2)]; exact h
theorem t_loa (f : Fr li la lj I A J I1 A1 J1) (q : 101 ∉ la) (h : rLoa (A 101)) : rLoa (A1 101) := by rw [f.a 101 (q)]; exact h
theorem t_shs (f : Fr li la lj I A J I1 A1 J1) (q : (∀ x ∈ li, (x.1 < 69 ∨ 80 < x.1) ∧ x ≠ (65, 1)) ∧ 95 ∉ la ∧ 96 ∉ la ∧ ∀ x ∈ lj, x < 70 ∨ (80 < x ∧ x ≠ 97)) (h : rShs (fun k => I (69 + 2 * k)) (A 95) (A 96) (fun k => J (70 + 2 * k)) (J 97) (I 65 1)) : rShs (fun k => I1 (69 + 2 * k)) (A1 95) (A1 96) (fun k => J1 (70 + 2 * k)) (J1 97) (I1 65 1) := by
  intro k hk
  have e : ∀ m, I1 (69 + 2 * k) m = I (69 + 2 * k) m := fun m => f.i _ _ fun hm => by
    have := (q.1 _ hm).1
    simp only at this
    omega
  have e2 : J1 (70 + 2 * k) = J (70 + 2 * k) := f.j _ fun hm => by
    have := q.2.2.2 _ hm
    omega
  simp only [e, e2]
  rw [f.a 95 q.2.1, f.a 96 q.2.2.1, f.j 97 (fun hm => by have := q.2.2.2 _ hm; omega), f.i 65 1 (fun hm => (q.1 _ hm).2 rfl)]
  exact h k hk
abbrev si0 : List (Nat × Nat) := [(1, 2), (1, 4), (1, 7), (6, 6), (15, 2), (15, 4), (20, 2), (20, 4), (24, 2), (24, 4), (28, 2), (28, 4), (32, 2), (32, 4), (36, 5), (41, 1), (41, 5), (49, 4), (56, 4), (65, 4), (65, 5), (81, 14), (81, 15), (81, 16), (81, 17), (81, 33), (81, 35)]
abbrev sa0 : List Nat := [3, 4, 5, 11, 12, 14, 16, 17, 18, 21, 22, 23, 25, 26, 27, 29, 30, 31, 33, 34, 35, 39, 40, 42, 43, 44, 45, 52, 59, 88, 89, 91, 92, 93, 94, 99, 100, 102, 103, 104]
theorem Rel.fr (h : Rel G I A J) (f : Fr si0 sa0 [98] I A J I1 A1 J1) : Rel G I1 A1 J1 := ⟨t_hou f (by decide) h.hou, t_nos f (by decide) h.nos, t_str f (by decide) h.str, t_has f (by decide) h.has, t_fir f (by decide) h.fir, t_chg f (by decide) h.chg, t_tap f (by decide) h.tap, t_lac f (by decide) h.lac, t_lar f (by decide) h.lar, t_pot f (by decide) h.pot, t_isp f (by decide) h.isp, t_led f (by decide) h.led, t_isk f (by decide) h.isk, t_img f (by decide) h.img, t_kpo f (by decide) h.kpo, t_kip f (by decide) h.kip, t_kle f (by decide) h.kle, t_lad f (by decide) h.lad, t_shs f (by decide) h.shs, t_con f (by decide) h.con, t_loa f (by decide) h.loa⟩
end RL

/-! WHAT JOINS CLASS AND REFERENCE -/
def rHou (a b : Int32) : Prop := a = b ∧ ∃ h : Nat, h ≤ 6 ∧ a = nI h
def rNos (sz : Int32) (kn wh : Nat → Int32) (rz : Int32) (nu : Nat → Int32) : Prop := sz = rz ∧ (∃ z : Nat, z ≤ 8 ∧ sz = nI z) ∧ ∀ j, j < 8 → kn j = nu (88 + j) ∧ wh j = nu (96 + j)
def rStr (st nu : Nat → Int32) : Prop := ∀ j, j < 40 → st j = nu j
def in09 (x : Int32) : Prop := ¬ x < 0 ∧ ¬ 9 < x
def rHas (ha nu : Nat → Int32) : Prop := ∀ j, j < 48 → ha j = nu (40 + j) ∧ in09 (ha j)
/-- a number that can be told, and where the reference has it -/
def vTold (h z n q : Int32) : Prop := ¬ n < 0 ∧ ((q = 0 ∧ n / 10 < 8 ∧ n - n / 10 * 10 < 5) ∨ (q = 1 ∧ n / 10 < h ∧ n - n / 10 * 10 < 8) ∨ (q = 2 ∧ n < z) ∨ (q = 3 ∧ n < z) ∨ (q = 4 ∧ n = 0))
def plc (n q : Int32) : Int32 := if q = 0 then 5 * (n / 10) + (n - n / 10 * 10) else if q = 1 then 40 + 8 * (n / 10) + (n - n / 10 * 10) else if q = 2 then 88 + n else if q = 3 then 96 + n else 104
def okV (q v : Int32) : Prop := q = 1 → in09 v
def rChg (dn sz rd rk : Int32) (n q b e rc ro ry : Nat → Int32) (h z : Int32) : Prop := dn = rd ∧ sz = rk ∧ ∃ d s : Nat, d ≤ s ∧ s ≤ 40 ∧ dn = nI d ∧ sz = nI s ∧ ∀ j, j < s → vTold h z (n j) (q j) ∧ rc j = plc (n j) (q j) ∧ b j = ro j ∧ e j = ry j ∧ okV (q j) (b j) ∧ okV (q j) (e j)
def rTap (ln rl : Int32) (a ra : Nat → Int32) : Prop := ln = rl ∧ ∃ n : Nat, n ≤ 120 ∧ ln = nI n ∧ ∀ j, j < n → a j = ra j ∧ ¬ a j < 0 ∧ ¬ 255 < a j
/-- a pot: things, minutes, tastes, and the reference's row of fourteen -/
def rPot (th : Nat → Int32) (mi : Int32) (ta : Nat → Int32) (re : Nat → Int32) : Prop := (∀ j, j < 8 → th j = re j ∧ in09 (th j)) ∧ mi = re 8 ∧ (¬ mi < 0 ∧ ¬ 99 < mi) ∧ ∀ j, j < 5 → ta j = re (9 + j) ∧ ¬ ta j < 0 ∧ ¬ 99 < ta j
def rBoo (a b : Int32) : Prop := a = b ∧ (a = 0 ∨ a = 1)
def rLed (a b : Nat → Int32) : Prop := ∀ j, j < 5 → a j = b j
def rImg (hk rh : Int32) (ha rha : Nat → Int32) : Prop := hk = rh ∧ ∃ h : Nat, h ≤ 6 ∧ hk = nI h ∧ ∀ j, j < 8 * h → ha j = rha j ∧ in09 (ha j)
def rLad (sz rs ran rr : Int32) (k rk t rt : Nat → Int32) : Prop := sz = rs ∧ ran = rr ∧ (∃ n : Nat, n ≤ 50 ∧ sz = nI n ∧ ∀ j, j < n → k j = rk j ∧ ¬ k j < 0 ∧ k j < 8) ∧ (∃ n : Nat, n ≤ 1000 ∧ ran = nI n) ∧ ∀ j, j < 24 → t j = rt j
/-- a shelf: holds, ladle, sort, length, elements; and the reference's kind, size, elements; how many bodies there are -/
def rShe (ho la so le rh rl : Int32) (el rel : Nat → Int64) (k : Nat) (bo : Int32) : Prop := ((ho = 0 ∧ rh = -1) ∨ (ho = 1 ∧ rh = 10 + la ∧ ¬ la < 0 ∧ la < bo) ∨ (ho = 2 ∧ rh = so ∧ ¬ so < 0 ∧ so < 5)) ∧ le = rl ∧ (∃ n : Nat, n ≤ 60 ∧ le = nI n) ∧ ∀ j, j < 60 → el j = rel (60 * k + j)
def rShs (I A : Nat → Nat → Int32) (J : Nat → Nat → Int64) : Prop := ∀ k, k < 6 → rShe (I (69 + 2 * k) 0) (I (69 + 2 * k) 1) (I (69 + 2 * k) 2) (I (69 + 2 * k) 3) (A 95 k) (A 96 k) (J (70 + 2 * k)) (J 97) k (I 65 1)
def rCon (a b c : Nat → Int32) : Prop := (∀ j, j < 6 → a j = ([115, 116, 109, 102, 105, 119] : List Int32).getD j 0) ∧ (∀ j, j < 8 → b j = ([-1, 0, 0, 2, 1, 3, 0, 4] : List Int32).getD j 0) ∧ ∀ j, j < 32 → c j = (am_sA 5).getD j 0
abbrev LWt : Type := (Nat → Int32) → (Nat → Int32) → (Nat → Int32) → Int32 → (Nat → Int32) → Int32 → Int32 → Prop
def Rel (LW : LWt) (I A : Nat → Nat → Int32) (J : Nat → Nat → Int64) : Prop :=
  rHou (I 0 9) (I 81 1) ∧ rNos (I 36 2) (A 37) (A 38) (I 81 2) (A 82) ∧ rStr (A 13) (A 82) ∧ rHas (A 47) (A 82) ∧ I 6 2 = A 82 104 ∧
  rChg (I 60 4) (I 60 5) (I 81 6) (I 81 7) (A 61) (A 62) (A 63) (A 64) (A 83) (A 84) (A 85) (I 0 9) (I 36 2) ∧ rTap (I 1 1) (I 81 9) (A 2) (A 86) ∧ LW (A 8) (A 9) (A 10) (I 7 3) (A 87) (I 81 11) (I 81 12) ∧
  rPot (A 50) (I 49 2) (A 51) (A 105) ∧ rBoo (I 46 3) (I 81 37) ∧ rLed (A 48) (A 106) ∧ rBoo (I 0 11) (I 81 44) ∧ rImg (I 0 10) (I 81 42) (A 54) (A 107) ∧ rPot (A 57) (I 56 2) (A 58) (A 108) ∧ rBoo (I 53 3) (I 81 43) ∧ rLed (A 55) (A 109) ∧
  rLad (I 65 1) (I 81 48) (I 65 3) (I 81 50) (A 66) (A 112) (A 67) (A 113) ∧ rShs I A J ∧ rCon (A 90) (A 110) (A 111)
/-- both answer one number, and stay joined -/
def Bt (LW : LWt) (mx mm : am_M) (as : List Value) : Prop := ∀ (X : Nat × (Nat → Int32)) (d : Nat) (I A : Nat → Nat → Int32) (J : Nat → Nat → Int64), Rel LW I A J → ∃ (r : Int32) (I1 A1 : Nat → Nat → Int32) (J1 : Nat → Nat → Int64) (I2 A2 : Nat → Nat → Int32) (J2 : Nat → Nat → Int64), am_CL X (d + 60) mx (.ref 0 :: as) (am_wd I A J) = some (some (.int r), am_wd I1 A1 J1) ∧ am_CL X (d + 60) mm (.ref 81 :: as) (am_wd I1 A1 J1) = some (some (.int r), am_wd I2 A2 J2) ∧ Rel LW I2 A2 J2
theorem rShs_c {I A I' A' : Nat → Nat → Int32} {J J' : Nat → Nat → Int64} (h : rShs I A J) (h1 : ∀ c, 69 ≤ c → c < 81 → I' c = I c) (h2 : A' 95 = A 95) (h3 : A' 96 = A 96) (h4 : ∀ c, 69 ≤ c → c < 81 → J' c = J c) (h5 : J' 97 = J 97) (h6 : I' 65 1 = I 65 1) : rShs I' A' J' := by
  intro k hk
  rw [h1 (69 + 2 * k) (by omega) (by omega), h2, h3, h4 (70 + 2 * k) (by omega) (by omega), h5, h6]
  exact h k hk
theorem vTold_mono {h z h' z' n q : Int32} (hh : ∀ x : Int32, x < h → x < h') (hz : ∀ x : Int32, x < z → x < z') (v : vTold h z n q) : vTold h' z' n q := by
  refine ⟨v.1, ?_⟩
  rcases v.2 with v | v | v | v | v
  · exact Or.inl v
  · exact Or.inr (Or.inl ⟨v.1, hh _ v.2.1, v.2.2⟩)
  · exact Or.inr (Or.inr (Or.inl ⟨v.1, hz _ v.2⟩))
  · exact Or.inr (Or.inr (Or.inr (Or.inl ⟨v.1, hz _ v.2⟩)))
  · exact Or.inr (Or.inr (Or.inr (Or.inr v)))
theorem nI_up {k : Nat} (hk : k < 1000) (x : Int32) (h : x < nI k) : x < nI (k + 1) := by
  have h1 : nI k < nI (k + 1) := nI_lt (by omega) (by omega)
  exact Int32.lt_trans h h1

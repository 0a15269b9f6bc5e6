/-! SHELVES BY NUMBER -/
section SHW
variable {I A : TI} {J : TJ} {k : Nat}
theorem shO (hk : k < 6) : am_isO 8 (am_rd (am_wd I A J) (69 + 2 * k)) = true := by
  rcases (by omega : k = 0 ∨ k = 1 ∨ k = 2 ∨ k = 3 ∨ k = 4 ∨ k = 5) with rfl | rfl | rfl | rfl | rfl | rfl <;> rfl
theorem shF0 (hk : k < 6) : am_isF 8 0 (am_rd (am_wd I A J) (69 + 2 * k)) = true := by
  rcases (by omega : k = 0 ∨ k = 1 ∨ k = 2 ∨ k = 3 ∨ k = 4 ∨ k = 5) with rfl | rfl | rfl | rfl | rfl | rfl <;> rfl
theorem shF1 (hk : k < 6) : am_isF 8 1 (am_rd (am_wd I A J) (69 + 2 * k)) = true := by
  rcases (by omega : k = 0 ∨ k = 1 ∨ k = 2 ∨ k = 3 ∨ k = 4 ∨ k = 5) with rfl | rfl | rfl | rfl | rfl | rfl <;> rfl
theorem shF2 (hk : k < 6) : am_isF 8 2 (am_rd (am_wd I A J) (69 + 2 * k)) = true := by
  rcases (by omega : k = 0 ∨ k = 1 ∨ k = 2 ∨ k = 3 ∨ k = 4 ∨ k = 5) with rfl | rfl | rfl | rfl | rfl | rfl <;> rfl
theorem shF3 (hk : k < 6) : am_isF 8 3 (am_rd (am_wd I A J) (69 + 2 * k)) = true := by
  rcases (by omega : k = 0 ∨ k = 1 ∨ k = 2 ∨ k = 3 ∨ k = 4 ∨ k = 5) with rfl | rfl | rfl | rfl | rfl | rfl <;> rfl
theorem shF4 (hk : k < 6) : am_isF 8 4 (am_rd (am_wd I A J) (69 + 2 * k)) = true := by
  rcases (by omega : k = 0 ∨ k = 1 ∨ k = 2 ∨ k = 3 ∨ k = 4 ∨ k = 5) with rfl | rfl | rfl | rfl | rfl | rfl <;> rfl
theorem shV0 (hk : k < 6) : am_fld 0 (am_rd (am_wd I A J) (69 + 2 * k)) = .int (I (69 + 2 * k) 0) := by
  rcases (by omega : k = 0 ∨ k = 1 ∨ k = 2 ∨ k = 3 ∨ k = 4 ∨ k = 5) with rfl | rfl | rfl | rfl | rfl | rfl <;> rfl
theorem shV1 (hk : k < 6) : am_fld 1 (am_rd (am_wd I A J) (69 + 2 * k)) = .int (I (69 + 2 * k) 1) := by
  rcases (by omega : k = 0 ∨ k = 1 ∨ k = 2 ∨ k = 3 ∨ k = 4 ∨ k = 5) with rfl | rfl | rfl | rfl | rfl | rfl <;> rfl
theorem shV2 (hk : k < 6) : am_fld 2 (am_rd (am_wd I A J) (69 + 2 * k)) = .int (I (69 + 2 * k) 2) := by
  rcases (by omega : k = 0 ∨ k = 1 ∨ k = 2 ∨ k = 3 ∨ k = 4 ∨ k = 5) with rfl | rfl | rfl | rfl | rfl | rfl <;> rfl
theorem shV3 (hk : k < 6) : am_fld 3 (am_rd (am_wd I A J) (69 + 2 * k)) = .int (I (69 + 2 * k) 3) := by
  rcases (by omega : k = 0 ∨ k = 1 ∨ k = 2 ∨ k = 3 ∨ k = 4 ∨ k = 5) with rfl | rfl | rfl | rfl | rfl | rfl <;> rfl
theorem shV4 (hk : k < 6) : am_fld 4 (am_rd (am_wd I A J) (69 + 2 * k)) = .ref (70 + 2 * k) := by
  rcases (by omega : k = 0 ∨ k = 1 ∨ k = 2 ∨ k = 3 ∨ k = 4 ∨ k = 5) with rfl | rfl | rfl | rfl | rfl | rfl <;> rfl
theorem shP0 (hk : k < 6) {x : Int32} : am_wr (am_wd I A J) (69 + 2 * k) (am_put 0 (am_rd (am_wd I A J) (69 + 2 * k)) (.int x)) = am_wd (am_u2 I (69 + 2 * k) 0 x) A J := by
  rcases (by omega : k = 0 ∨ k = 1 ∨ k = 2 ∨ k = 3 ∨ k = 4 ∨ k = 5) with rfl | rfl | rfl | rfl | rfl | rfl
  · exact wp_69_0
  · exact wp_71_0
  · exact wp_73_0
  · exact wp_75_0
  · exact wp_77_0
  · exact wp_79_0
theorem shP1 (hk : k < 6) {x : Int32} : am_wr (am_wd I A J) (69 + 2 * k) (am_put 1 (am_rd (am_wd I A J) (69 + 2 * k)) (.int x)) = am_wd (am_u2 I (69 + 2 * k) 1 x) A J := by
  rcases (by omega : k = 0 ∨ k = 1 ∨ k = 2 ∨ k = 3 ∨ k = 4 ∨ k = 5) with rfl | rfl | rfl | rfl | rfl | rfl
  · exact wp_69_1
  · exact wp_71_1
  · exact wp_73_1
  · exact wp_75_1
  · exact wp_77_1
  · exact wp_79_1
theorem shP2 (hk : k < 6) {x : Int32} : am_wr (am_wd I A J) (69 + 2 * k) (am_put 2 (am_rd (am_wd I A J) (69 + 2 * k)) (.int x)) = am_wd (am_u2 I (69 + 2 * k) 2 x) A J := by
  rcases (by omega : k = 0 ∨ k = 1 ∨ k = 2 ∨ k = 3 ∨ k = 4 ∨ k = 5) with rfl | rfl | rfl | rfl | rfl | rfl
  · exact wp_69_2
  · exact wp_71_2
  · exact wp_73_2
  · exact wp_75_2
  · exact wp_77_2
  · exact wp_79_2
theorem shP3 (hk : k < 6) {x : Int32} : am_wr (am_wd I A J) (69 + 2 * k) (am_put 3 (am_rd (am_wd I A J) (69 + 2 * k)) (.int x)) = am_wd (am_u2 I (69 + 2 * k) 3 x) A J := by
  rcases (by omega : k = 0 ∨ k = 1 ∨ k = 2 ∨ k = 3 ∨ k = 4 ∨ k = 5) with rfl | rfl | rfl | rfl | rfl | rfl
  · exact wp_69_3
  · exact wp_71_3
  · exact wp_73_3
  · exact wp_75_3
  · exact wp_77_3
  · exact wp_79_3
theorem elI (hk : k < 6) {i : Int32} : am_isJ 1 (am_rd (am_wd I A J) (70 + 2 * k)) i = am_in i 60 := by
  rcases (by omega : k = 0 ∨ k = 1 ∨ k = 2 ∨ k = 3 ∨ k = 4 ∨ k = 5) with rfl | rfl | rfl | rfl | rfl | rfl <;> rfl
theorem elG (hk : k < 6) {i : Int32} : am_geJ (am_rd (am_wd I A J) (70 + 2 * k)) i = J (70 + 2 * k) i.toNatClampNeg := by
  rcases (by omega : k = 0 ∨ k = 1 ∨ k = 2 ∨ k = 3 ∨ k = 4 ∨ k = 5) with rfl | rfl | rfl | rfl | rfl | rfl <;> rfl
theorem elS (hk : k < 6) {i : Int32} {x : Int64} : am_wr (am_wd I A J) (70 + 2 * k) (am_seJ (am_rd (am_wd I A J) (70 + 2 * k)) i x) = am_wd I A (am_u J (70 + 2 * k) (vp_updL (J (70 + 2 * k)) i.toNatClampNeg x)) := by
  rcases (by omega : k = 0 ∨ k = 1 ∨ k = 2 ∨ k = 3 ∨ k = 4 ∨ k = 5) with rfl | rfl | rfl | rfl | rfl | rfl
  · exact ws_70
  · exact ws_72
  · exact ws_74
  · exact ws_76
  · exact ws_78
  · exact ws_80
theorem elW (hk : k < 6) {g : Nat → Int64} : am_wr (am_wd I A J) (70 + 2 * k) (.inl (1, 60, .inr (.inl g))) = am_wd I A (am_u J (70 + 2 * k) g) := by
  rcases (by omega : k = 0 ∨ k = 1 ∨ k = 2 ∨ k = 3 ∨ k = 4 ∨ k = 5) with rfl | rfl | rfl | rfl | rfl | rfl
  · exact ww_70
  · exact ww_72
  · exact ww_74
  · exact ww_76
  · exact ww_78
  · exact ww_80
theorem elR (hk : k < 6) : am_rd (am_wd I A J) (70 + 2 * k) = .inl (1, 60, .inr (.inl (J (70 + 2 * k)))) := by
  rcases (by omega : k = 0 ∨ k = 1 ∨ k = 2 ∨ k = 3 ∨ k = 4 ∨ k = 5) with rfl | rfl | rfl | rfl | rfl | rfl <;> rfl
theorem shA (hk : k < 6) : va_rf ((fun j => if j < 6 then some (69 + 2 * j) else none) k) = .ref (69 + 2 * k) := by
  rcases (by omega : k = 0 ∨ k = 1 ∨ k = 2 ∨ k = 3 ∨ k = 4 ∨ k = 5) with rfl | rfl | rfl | rfl | rfl | rfl <;> rfl
theorem shAi (hk : k < 6) : va_rf (if (nI k).toNatClampNeg < 6 then some (69 + 2 * (nI k).toNatClampNeg) else none) = .ref (69 + 2 * k) := by
  rw [am_ncl (show k < 2147483648 by omega), if_pos hk]
  rfl
theorem shIn (hk : k < 6) : am_in (nI k) 6 = true := am_nin hk (by decide)
abbrev shI : List (Nat × Nat) := [(69, 0), (69, 1), (69, 2), (69, 3), (71, 0), (71, 1), (71, 2), (71, 3), (73, 0), (73, 1), (73, 2), (73, 3), (75, 0), (75, 1), (75, 2), (75, 3), (77, 0), (77, 1), (77, 2), (77, 3), (79, 0), (79, 1), (79, 2), (79, 3)]
abbrev shJ : List Nat := [70, 72, 74, 76, 78, 80, 97]
theorem shM0 (hk : k < 6) : (69 + 2 * k, 0) ∈ shI := by
  rcases (by omega : k = 0 ∨ k = 1 ∨ k = 2 ∨ k = 3 ∨ k = 4 ∨ k = 5) with rfl | rfl | rfl | rfl | rfl | rfl <;> decide
theorem shM1 (hk : k < 6) : (69 + 2 * k, 1) ∈ shI := by
  rcases (by omega : k = 0 ∨ k = 1 ∨ k = 2 ∨ k = 3 ∨ k = 4 ∨ k = 5) with rfl | rfl | rfl | rfl | rfl | rfl <;> decide
theorem shM2 (hk : k < 6) : (69 + 2 * k, 2) ∈ shI := by
  rcases (by omega : k = 0 ∨ k = 1 ∨ k = 2 ∨ k = 3 ∨ k = 4 ∨ k = 5) with rfl | rfl | rfl | rfl | rfl | rfl <;> decide
theorem shM3 (hk : k < 6) : (69 + 2 * k, 3) ∈ shI := by
  rcases (by omega : k = 0 ∨ k = 1 ∨ k = 2 ∨ k = 3 ∨ k = 4 ∨ k = 5) with rfl | rfl | rfl | rfl | rfl | rfl <;> decide
theorem shMJ (hk : k < 6) : 70 + 2 * k ∈ shJ := by
  rcases (by omega : k = 0 ∨ k = 1 ∨ k = 2 ∨ k = 3 ∨ k = 4 ∨ k = 5) with rfl | rfl | rfl | rfl | rfl | rfl <;> decide
theorem Rel.sh {G : VF} (h : Rel G I A J) (hk : k < 6) : rShe (I (69 + 2 * k) 0) (I (69 + 2 * k) 1) (I (69 + 2 * k) 2) (I (69 + 2 * k) 3) (A 95 k) (A 96 k) (J (70 + 2 * k)) (J 97) k (I 65 1) := h.shs k hk
theorem shs_one {sh sh' : Nat → Nat → Int32} {rh rl rh' rl' : Nat → Int32} {el el' : Nat → Nat → Int64} {rel rel' : Nat → Int64} {bo bo' : Int32} (h : rShs sh rh rl el rel bo) (e0 : bo' = bo) (e1 : ∀ i, i < 6 → i ≠ k → sh' i = sh i ∧ rh' i = rh i ∧ rl' i = rl i ∧ el' i = el i ∧ ∀ j, j < 60 → rel' (60 * i + j) = rel (60 * i + j)) (e2 : rShe (sh' k 0) (sh' k 1) (sh' k 2) (sh' k 3) (rh' k) (rl' k) (el' k) rel' k bo') : rShs sh' rh' rl' el' rel' bo' := by
  intro i hi
  subst e0
  by_cases q : i = k
  · subst q; exact e2
  · obtain ⟨a, b, c, d, e⟩ := e1 i hi q
    obtain ⟨h1, h2, h3⟩ := h i hi
    rw [a, b, c, d]
    exact ⟨h1, h2, fun j hj => by rw [e j hj]; exact h3 j hj⟩
end SHW

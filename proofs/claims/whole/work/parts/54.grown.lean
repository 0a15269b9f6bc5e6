/-! THE LAW AT WORK: the class's grown() -/
section GR
variable {X : Nat × (Nat → Int32)} {d : Nat} {I A : TI} {J : TJ} {w : am_W}
theorem xJ17 {a b : Int32} : xJoin (-17) a b = if a = 0 then 0 else if b = 0 then 0 else 1 := by unfold xJoin; rw [if_neg (by decide), if_neg (by decide), if_neg (by decide), if_neg (by decide), if_neg (by decide), if_neg (by decide), if_neg (by decide), if_neg (by decide), if_pos rfl]
theorem xJd {s a b : Int32} (h9 : ¬ s = -9) (h10 : ¬ s = -10) (h11 : ¬ s = -11) (h12 : ¬ s = -12) (h13 : ¬ s = -13) (h14 : ¬ s = -14) (h15 : ¬ s = -15) (h16 : ¬ s = -16) (h17 : ¬ s = -17) : xJoin s a b = if a = 0 then (if b = 0 then 0 else 1) else 1 := by unfold xJoin; rw [if_neg h9, if_neg h10, if_neg h11, if_neg h12, if_neg h13, if_neg h14, if_neg h15, if_neg h16, if_neg h17]
theorem c_joined {s a b : Int32} (hs : s < -8) : am_CL X (d + 1) mX4_joined [.int s, .int a, .int b] w = some (some (.int (xJoin s a b)), w) := by
  rw [eX4_joined, sX4_joined_0]
  by_cases h9 : s = -9
  · subst h9
    rw [xJ9]
    simp only [sX4_joined_1_cm17, sX4_joined_1_cm16, sX4_joined_1_cm15, sX4_joined_1_cm14, sX4_joined_1_cm13, sX4_joined_1_cm12, sX4_joined_1_cm11, sX4_joined_1_cm10, sX4_joined_1_cm9, sX4_joined_52, sX4_joined_53, sX4_joined_54, sX4_joined_55, sX4_joined_56, sX4_joined_57, sX4_joined_60, sX4_joined_61, sX4_joined_64, sX4_joined_65, sX4_joined_66, sX4_joined_67, sX4_joined_68, sX4_joined_69, sX4_joined_72, sX4_joined_73, sX4_joined_76, sX4_joined_77, sX4_joined_78, sX4_joined_79, sX4_joined_80, sX4_joined_81, sX4_joined_82, sX4_joined_83, sX4_joined_84, sX4_joined_85, sX4_joined_86, sX4_joined_87, sX4_joined_88, sX4_joined_89, sX4_joined_90, sX4_joined_93, sX4_joined_94, sX4_joined_97, sX4_joined_98, sX4_joined_99, sX4_joined_100, sX4_joined_101, sX4_joined_104, sX4_joined_105, sX4_joined_108, sX4_joined_109, sX4_joined_110, sX4_joined_111, sX4_joined_112, sX4_joined_115, sX4_joined_116, sX4_joined_119, sX4_joined_120, sX4_joined_121, sX4_joined_122, sX4_joined_125, sX4_joined_126, sX4_joined_129, sX4_joined_130, sX4_joined_133, sX4_joined_134, sX4_joined_135, sX4_joined_136, sX4_joined_139, sX4_joined_140, sX4_joined_143, sX4_joined_144, sX4_joined_147, sX4_joined_148]
  by_cases h10 : s = -10
  · subst h10
    rw [xJ10]
    simp only [sX4_joined_1_cm17, sX4_joined_1_cm16, sX4_joined_1_cm15, sX4_joined_1_cm14, sX4_joined_1_cm13, sX4_joined_1_cm12, sX4_joined_1_cm11, sX4_joined_1_cm10, sX4_joined_1_cm9, sX4_joined_52, sX4_joined_53, sX4_joined_54, sX4_joined_55, sX4_joined_56, sX4_joined_57, sX4_joined_60, sX4_joined_61, sX4_joined_64, sX4_joined_65, sX4_joined_66, sX4_joined_67, sX4_joined_68, sX4_joined_69, sX4_joined_72, sX4_joined_73, sX4_joined_76, sX4_joined_77, sX4_joined_78, sX4_joined_79, sX4_joined_80, sX4_joined_81, sX4_joined_82, sX4_joined_83, sX4_joined_84, sX4_joined_85, sX4_joined_86, sX4_joined_87, sX4_joined_88, sX4_joined_89, sX4_joined_90, sX4_joined_93, sX4_joined_94, sX4_joined_97, sX4_joined_98, sX4_joined_99, sX4_joined_100, sX4_joined_101, sX4_joined_104, sX4_joined_105, sX4_joined_108, sX4_joined_109, sX4_joined_110, sX4_joined_111, sX4_joined_112, sX4_joined_115, sX4_joined_116, sX4_joined_119, sX4_joined_120, sX4_joined_121, sX4_joined_122, sX4_joined_125, sX4_joined_126, sX4_joined_129, sX4_joined_130, sX4_joined_133, sX4_joined_134, sX4_joined_135, sX4_joined_136, sX4_joined_139, sX4_joined_140, sX4_joined_143, sX4_joined_144, sX4_joined_147, sX4_joined_148]
    by_cases q : b = 0 <;> simp only [q, if_true, if_false]
  by_cases h11 : s = -11
  · subst h11
    rw [xJ11]
    simp only [sX4_joined_1_cm17, sX4_joined_1_cm16, sX4_joined_1_cm15, sX4_joined_1_cm14, sX4_joined_1_cm13, sX4_joined_1_cm12, sX4_joined_1_cm11, sX4_joined_1_cm10, sX4_joined_1_cm9, sX4_joined_52, sX4_joined_53, sX4_joined_54, sX4_joined_55, sX4_joined_56, sX4_joined_57, sX4_joined_60, sX4_joined_61, sX4_joined_64, sX4_joined_65, sX4_joined_66, sX4_joined_67, sX4_joined_68, sX4_joined_69, sX4_joined_72, sX4_joined_73, sX4_joined_76, sX4_joined_77, sX4_joined_78, sX4_joined_79, sX4_joined_80, sX4_joined_81, sX4_joined_82, sX4_joined_83, sX4_joined_84, sX4_joined_85, sX4_joined_86, sX4_joined_87, sX4_joined_88, sX4_joined_89, sX4_joined_90, sX4_joined_93, sX4_joined_94, sX4_joined_97, sX4_joined_98, sX4_joined_99, sX4_joined_100, sX4_joined_101, sX4_joined_104, sX4_joined_105, sX4_joined_108, sX4_joined_109, sX4_joined_110, sX4_joined_111, sX4_joined_112, sX4_joined_115, sX4_joined_116, sX4_joined_119, sX4_joined_120, sX4_joined_121, sX4_joined_122, sX4_joined_125, sX4_joined_126, sX4_joined_129, sX4_joined_130, sX4_joined_133, sX4_joined_134, sX4_joined_135, sX4_joined_136, sX4_joined_139, sX4_joined_140, sX4_joined_143, sX4_joined_144, sX4_joined_147, sX4_joined_148]
    by_cases q : b = 0 <;> simp only [q, if_true, if_false]
  by_cases h12 : s = -12
  · subst h12
    rw [xJ12]
    simp only [sX4_joined_1_cm17, sX4_joined_1_cm16, sX4_joined_1_cm15, sX4_joined_1_cm14, sX4_joined_1_cm13, sX4_joined_1_cm12, sX4_joined_1_cm11, sX4_joined_1_cm10, sX4_joined_1_cm9, sX4_joined_52, sX4_joined_53, sX4_joined_54, sX4_joined_55, sX4_joined_56, sX4_joined_57, sX4_joined_60, sX4_joined_61, sX4_joined_64, sX4_joined_65, sX4_joined_66, sX4_joined_67, sX4_joined_68, sX4_joined_69, sX4_joined_72, sX4_joined_73, sX4_joined_76, sX4_joined_77, sX4_joined_78, sX4_joined_79, sX4_joined_80, sX4_joined_81, sX4_joined_82, sX4_joined_83, sX4_joined_84, sX4_joined_85, sX4_joined_86, sX4_joined_87, sX4_joined_88, sX4_joined_89, sX4_joined_90, sX4_joined_93, sX4_joined_94, sX4_joined_97, sX4_joined_98, sX4_joined_99, sX4_joined_100, sX4_joined_101, sX4_joined_104, sX4_joined_105, sX4_joined_108, sX4_joined_109, sX4_joined_110, sX4_joined_111, sX4_joined_112, sX4_joined_115, sX4_joined_116, sX4_joined_119, sX4_joined_120, sX4_joined_121, sX4_joined_122, sX4_joined_125, sX4_joined_126, sX4_joined_129, sX4_joined_130, sX4_joined_133, sX4_joined_134, sX4_joined_135, sX4_joined_136, sX4_joined_139, sX4_joined_140, sX4_joined_143, sX4_joined_144, sX4_joined_147, sX4_joined_148]
  by_cases h13 : s = -13
  · subst h13
    rw [xJ13]
    simp only [sX4_joined_1_cm17, sX4_joined_1_cm16, sX4_joined_1_cm15, sX4_joined_1_cm14, sX4_joined_1_cm13, sX4_joined_1_cm12, sX4_joined_1_cm11, sX4_joined_1_cm10, sX4_joined_1_cm9, sX4_joined_52, sX4_joined_53, sX4_joined_54, sX4_joined_55, sX4_joined_56, sX4_joined_57, sX4_joined_60, sX4_joined_61, sX4_joined_64, sX4_joined_65, sX4_joined_66, sX4_joined_67, sX4_joined_68, sX4_joined_69, sX4_joined_72, sX4_joined_73, sX4_joined_76, sX4_joined_77, sX4_joined_78, sX4_joined_79, sX4_joined_80, sX4_joined_81, sX4_joined_82, sX4_joined_83, sX4_joined_84, sX4_joined_85, sX4_joined_86, sX4_joined_87, sX4_joined_88, sX4_joined_89, sX4_joined_90, sX4_joined_93, sX4_joined_94, sX4_joined_97, sX4_joined_98, sX4_joined_99, sX4_joined_100, sX4_joined_101, sX4_joined_104, sX4_joined_105, sX4_joined_108, sX4_joined_109, sX4_joined_110, sX4_joined_111, sX4_joined_112, sX4_joined_115, sX4_joined_116, sX4_joined_119, sX4_joined_120, sX4_joined_121, sX4_joined_122, sX4_joined_125, sX4_joined_126, sX4_joined_129, sX4_joined_130, sX4_joined_133, sX4_joined_134, sX4_joined_135, sX4_joined_136, sX4_joined_139, sX4_joined_140, sX4_joined_143, sX4_joined_144, sX4_joined_147, sX4_joined_148]
  by_cases h14 : s = -14
  · subst h14
    rw [xJ14]
    simp only [sX4_joined_1_cm17, sX4_joined_1_cm16, sX4_joined_1_cm15, sX4_joined_1_cm14, sX4_joined_1_cm13, sX4_joined_1_cm12, sX4_joined_1_cm11, sX4_joined_1_cm10, sX4_joined_1_cm9, sX4_joined_52, sX4_joined_53, sX4_joined_54, sX4_joined_55, sX4_joined_56, sX4_joined_57, sX4_joined_60, sX4_joined_61, sX4_joined_64, sX4_joined_65, sX4_joined_66, sX4_joined_67, sX4_joined_68, sX4_joined_69, sX4_joined_72, sX4_joined_73, sX4_joined_76, sX4_joined_77, sX4_joined_78, sX4_joined_79, sX4_joined_80, sX4_joined_81, sX4_joined_82, sX4_joined_83, sX4_joined_84, sX4_joined_85, sX4_joined_86, sX4_joined_87, sX4_joined_88, sX4_joined_89, sX4_joined_90, sX4_joined_93, sX4_joined_94, sX4_joined_97, sX4_joined_98, sX4_joined_99, sX4_joined_100, sX4_joined_101, sX4_joined_104, sX4_joined_105, sX4_joined_108, sX4_joined_109, sX4_joined_110, sX4_joined_111, sX4_joined_112, sX4_joined_115, sX4_joined_116, sX4_joined_119, sX4_joined_120, sX4_joined_121, sX4_joined_122, sX4_joined_125, sX4_joined_126, sX4_joined_129, sX4_joined_130, sX4_joined_133, sX4_joined_134, sX4_joined_135, sX4_joined_136, sX4_joined_139, sX4_joined_140, sX4_joined_143, sX4_joined_144, sX4_joined_147, sX4_joined_148]
    by_cases q : a < b <;> simp only [q, if_true, if_false]
  by_cases h15 : s = -15
  · subst h15
    rw [xJ15]
    simp only [sX4_joined_1_cm17, sX4_joined_1_cm16, sX4_joined_1_cm15, sX4_joined_1_cm14, sX4_joined_1_cm13, sX4_joined_1_cm12, sX4_joined_1_cm11, sX4_joined_1_cm10, sX4_joined_1_cm9, sX4_joined_52, sX4_joined_53, sX4_joined_54, sX4_joined_55, sX4_joined_56, sX4_joined_57, sX4_joined_60, sX4_joined_61, sX4_joined_64, sX4_joined_65, sX4_joined_66, sX4_joined_67, sX4_joined_68, sX4_joined_69, sX4_joined_72, sX4_joined_73, sX4_joined_76, sX4_joined_77, sX4_joined_78, sX4_joined_79, sX4_joined_80, sX4_joined_81, sX4_joined_82, sX4_joined_83, sX4_joined_84, sX4_joined_85, sX4_joined_86, sX4_joined_87, sX4_joined_88, sX4_joined_89, sX4_joined_90, sX4_joined_93, sX4_joined_94, sX4_joined_97, sX4_joined_98, sX4_joined_99, sX4_joined_100, sX4_joined_101, sX4_joined_104, sX4_joined_105, sX4_joined_108, sX4_joined_109, sX4_joined_110, sX4_joined_111, sX4_joined_112, sX4_joined_115, sX4_joined_116, sX4_joined_119, sX4_joined_120, sX4_joined_121, sX4_joined_122, sX4_joined_125, sX4_joined_126, sX4_joined_129, sX4_joined_130, sX4_joined_133, sX4_joined_134, sX4_joined_135, sX4_joined_136, sX4_joined_139, sX4_joined_140, sX4_joined_143, sX4_joined_144, sX4_joined_147, sX4_joined_148]
    by_cases q : a = b <;> simp only [q, if_true, if_false]
  by_cases h16 : s = -16
  · subst h16
    rw [xJ16]
    simp only [sX4_joined_1_cm17, sX4_joined_1_cm16, sX4_joined_1_cm15, sX4_joined_1_cm14, sX4_joined_1_cm13, sX4_joined_1_cm12, sX4_joined_1_cm11, sX4_joined_1_cm10, sX4_joined_1_cm9, sX4_joined_52, sX4_joined_53, sX4_joined_54, sX4_joined_55, sX4_joined_56, sX4_joined_57, sX4_joined_60, sX4_joined_61, sX4_joined_64, sX4_joined_65, sX4_joined_66, sX4_joined_67, sX4_joined_68, sX4_joined_69, sX4_joined_72, sX4_joined_73, sX4_joined_76, sX4_joined_77, sX4_joined_78, sX4_joined_79, sX4_joined_80, sX4_joined_81, sX4_joined_82, sX4_joined_83, sX4_joined_84, sX4_joined_85, sX4_joined_86, sX4_joined_87, sX4_joined_88, sX4_joined_89, sX4_joined_90, sX4_joined_93, sX4_joined_94, sX4_joined_97, sX4_joined_98, sX4_joined_99, sX4_joined_100, sX4_joined_101, sX4_joined_104, sX4_joined_105, sX4_joined_108, sX4_joined_109, sX4_joined_110, sX4_joined_111, sX4_joined_112, sX4_joined_115, sX4_joined_116, sX4_joined_119, sX4_joined_120, sX4_joined_121, sX4_joined_122, sX4_joined_125, sX4_joined_126, sX4_joined_129, sX4_joined_130, sX4_joined_133, sX4_joined_134, sX4_joined_135, sX4_joined_136, sX4_joined_139, sX4_joined_140, sX4_joined_143, sX4_joined_144, sX4_joined_147, sX4_joined_148]
    by_cases q : b < a <;> simp only [q, if_true, if_false]
  by_cases h17 : s = -17
  · subst h17
    rw [xJ17]
    simp only [sX4_joined_1_cm17, sX4_joined_1_cm16, sX4_joined_1_cm15, sX4_joined_1_cm14, sX4_joined_1_cm13, sX4_joined_1_cm12, sX4_joined_1_cm11, sX4_joined_1_cm10, sX4_joined_1_cm9, sX4_joined_52, sX4_joined_53, sX4_joined_54, sX4_joined_55, sX4_joined_56, sX4_joined_57, sX4_joined_60, sX4_joined_61, sX4_joined_64, sX4_joined_65, sX4_joined_66, sX4_joined_67, sX4_joined_68, sX4_joined_69, sX4_joined_72, sX4_joined_73, sX4_joined_76, sX4_joined_77, sX4_joined_78, sX4_joined_79, sX4_joined_80, sX4_joined_81, sX4_joined_82, sX4_joined_83, sX4_joined_84, sX4_joined_85, sX4_joined_86, sX4_joined_87, sX4_joined_88, sX4_joined_89, sX4_joined_90, sX4_joined_93, sX4_joined_94, sX4_joined_97, sX4_joined_98, sX4_joined_99, sX4_joined_100, sX4_joined_101, sX4_joined_104, sX4_joined_105, sX4_joined_108, sX4_joined_109, sX4_joined_110, sX4_joined_111, sX4_joined_112, sX4_joined_115, sX4_joined_116, sX4_joined_119, sX4_joined_120, sX4_joined_121, sX4_joined_122, sX4_joined_125, sX4_joined_126, sX4_joined_129, sX4_joined_130, sX4_joined_133, sX4_joined_134, sX4_joined_135, sX4_joined_136, sX4_joined_139, sX4_joined_140, sX4_joined_143, sX4_joined_144, sX4_joined_147, sX4_joined_148]
    by_cases q : a = 0 <;> by_cases q2 : b = 0 <;> simp only [q, q2, if_true, if_false]
  have hlt : s.toInt < -8 := Int32.lt_iff_toInt_lt.mp hs
  have q9 : s.toInt ≠ -9 := am_ne h9
  have q10 : s.toInt ≠ -10 := am_ne h10
  have q11 : s.toInt ≠ -11 := am_ne h11
  have q12 : s.toInt ≠ -12 := am_ne h12
  have q13 : s.toInt ≠ -13 := am_ne h13
  have q14 : s.toInt ≠ -14 := am_ne h14
  have q15 : s.toInt ≠ -15 := am_ne h15
  have q16 : s.toInt ≠ -16 := am_ne h16
  have q17 : s.toInt ≠ -17 := am_ne h17
  rw [sX4_joined_1_d (by omega), xJd h9 h10 h11 h12 h13 h14 h15 h16 h17]
  simp only [sX4_joined_135, sX4_joined_136, sX4_joined_139, sX4_joined_140, sX4_joined_143, sX4_joined_144, sX4_joined_147, sX4_joined_148]
  by_cases q : a = 0 <;> by_cases q2 : b = 0 <;> simp only [q, q2, if_true, if_false]


theorem am_uu {α : Type} {A : Nat → α} {c : Nat} {g g' : α} : am_u (am_u A c g) c g' = am_u A c g' := by
  funext j
  by_cases h : j = c <;> simp [am_u, h]
theorem xStep_le {nm : NM} {s : Int32} {q : XS} (h : q.1 ≤ 120) : (xStep nm s q).1 ≤ 120 := by
  unfold xStep
  by_cases h1 : s < -6
  · rw [if_pos h1]
    by_cases h2 : s < -8
    · rw [if_pos h2]
      by_cases h3 : 2 ≤ q.1
      · rw [if_pos h3]; show q.1 - 1 ≤ 120; omega
      · rw [if_neg h3]; exact h
    · rw [if_neg h2]
      by_cases h3 : 1 ≤ q.1
      · rw [if_pos h3]; exact h
      · rw [if_neg h3]; exact h
  · rw [if_neg h1]
    by_cases h3 : q.1 < 120
    · rw [if_pos h3]; exact h3
    · rw [if_neg h3]; exact h
theorem nm_ix {s : Int32} (h : ¬ s < -6) (h0 : s < 0) : ∃ j : Nat, j < 6 ∧ -1 - s = nI j := by
  have h1 : ¬ s.toInt < (-6 : Int32).toInt := mt Int32.lt_iff_toInt_lt.mpr h
  have h9 : (-6 : Int32).toInt = -6 := by decide
  have h2 : s.toInt < 0 := Int32.lt_iff_toInt_lt.mp h0
  have key : ∀ k : Int32, s.toInt = k.toInt → s = k := fun k q => Int32.toInt_inj.mp q
  rcases (by omega : s.toInt = -1 ∨ s.toInt = -2 ∨ s.toInt = -3 ∨ s.toInt = -4 ∨ s.toInt = -5 ∨ s.toInt = -6) with q | q | q | q | q | q
  · rw [key (-1) q]; exact ⟨0, by decide, by decide⟩
  · rw [key (-2) q]; exact ⟨1, by decide, by decide⟩
  · rw [key (-3) q]; exact ⟨2, by decide, by decide⟩
  · rw [key (-4) q]; exact ⟨3, by decide, by decide⟩
  · rw [key (-5) q]; exact ⟨4, by decide, by decide⟩
  · rw [key (-6) q]; exact ⟨5, by decide, by decide⟩
def xOut (q : XS) : Int32 := if 0 < q.1 then q.2 0 else 0
theorem c_workedOut {nm : NM} {a b : Nat} (hb : b ≤ 120) (hab : a ≤ b) (hnm : ∀ j, j < 6 → A 12 j = nm j) : am_CL X (d + 2) mX4_workedOut [.ref 7, .int (nI a), .int (nI b)] (am_wd I A J) = some (some (.int (xOut (xRun (A 8) nm (b - a) a (0, A 11)))), am_wd I (am_u A 11 (xRun (A 8) nm (b - a) a (0, A 11)).2) J) := by
  have key : ∀ (m k top : Nat) (f : Nat → Int32) (z5 z6 : Value), k + m = b → top ≤ 120 → am_EV X (d + 1) mX4_workedOut 5 [.ref 7, .int (nI a), .int (nI b), .int (nI top), .int (nI k), z5, z6] [] (am_wd I (am_u A 11 f) J) = some (some (.int (xOut (xRun (A 8) nm m k (top, f)))), am_wd I (am_u A 11 (xRun (A 8) nm m k (top, f)).2) J) := by
    intro m
    induction m with
    | zero =>
      intro k top f z5 z6 hk ht
      have hkb : k = b := by omega
      subst hkb
      simp only [sX4_workedOut_5, sX4_workedOut_7, sX4_workedOut_8, am_rt_some, am_rt_void, am_rt_none, am_rt_ite, ↓reduceIte, if_true, if_false, and_self, true_and, and_true, true_or, or_true, Bool.false_eq_true, reduceCtorEq, am_nlt (show k < 2147483648 by omega) (show k < 2147483648 by omega), Nat.lt_irrefl]
      have e : (0 < nI top) = (0 < top) := propext (nI_ltI (a := 0) (b := top) (by decide) (by omega))
      simp only [sX4_workedOut_164, sX4_workedOut_165, sX4_workedOut_168, sX4_workedOut_169, sX4_workedOut_172, sX4_workedOut_173, sX4_workedOut_174, sX4_workedOut_177, sX4_workedOut_178, wo_7, wf_7_0, wv_7_0, wf_7_1, wv_7_1, wf_7_2, wv_7_2, wf_7_3, wv_7_3, wp_7_3, wf_7_4, wv_7_4, wf_7_5, wv_7_5, wi_11, wg_11, ws_11, ww_11, wl_11, wn_11, am_rt_some, am_rt_void, am_rt_none, am_rt_ite, ↓reduceIte, if_true, if_false, and_self, true_and, and_true, true_or, or_true, Bool.false_eq_true, reduceCtorEq, e, show am_in 0 120 = true from rfl, am_u_at]
      show (if 0 < top then _ else _) = _
      unfold xOut xRun
      by_cases q : 0 < top <;> simp only [q, if_true, if_false] <;> rfl
    | succ m ih =>
      intro k top f z5 z6 hk ht
      have hlt : (nI k < nI b) = True := by rw [am_nlt (show k < 2147483648 by omega) (show b < 2147483648 by omega)]; exact eq_true (by omega)
      show _ = some (some (Value.int (xOut (xRun (A 8) nm m (k + 1) (xStep nm (A 8 k) (top, f))))), am_wd I (am_u A 11 (xRun (A 8) nm m (k + 1) (xStep nm (A 8 k) (top, f))).2) J)
      rw [sX4_workedOut_5]
      simp only [sX4_workedOut_7, sX4_workedOut_8, sX4_workedOut_11, sX4_workedOut_12, sX4_workedOut_15, sX4_workedOut_17, sX4_workedOut_18, sX4_workedOut_20, sX4_workedOut_22, sX4_workedOut_24, wo_7, wf_7_0, wv_7_0, wf_7_1, wv_7_1, wf_7_2, wv_7_2, wf_7_3, wv_7_3, wp_7_3, wf_7_4, wv_7_4, wf_7_5, wv_7_5, wi_8, wg_8, ws_8, ww_8, wl_8, wn_8, am_rt_some, am_rt_void, am_rt_none, am_rt_ite, ↓reduceIte, if_true, if_false, and_self, true_and, and_true, true_or, or_true, Bool.false_eq_true, reduceCtorEq, hlt, am_nin (show k < 120 by omega) (show (120 : Nat) < 2147483648 by omega), am_ncl (show k < 2147483648 by omega), am_u_ne (show (8 : Nat) ≠ 11 by decide)]
      have et : (nI top < 120) = (top < 120) := am_nlit (x := 120) 120 rfl (by omega) (by decide)
      have e1 : (nI top < 1) = (top < 1) := am_nlit (x := 1) 1 rfl (by omega) (by decide)
      have e2 : (nI top < 2) = (top < 2) := am_nlit (x := 2) 2 rfl (by omega) (by decide)
      generalize hsv : A 8 k = s
      by_cases h6 : s < -6
      · simp only [h6, if_true]
        by_cases h8 : s < -8
        · simp only [sX4_workedOut_67, sX4_workedOut_69, sX4_workedOut_71, am_rt_some, am_rt_void, am_rt_none, am_rt_ite, ↓reduceIte, if_true, if_false, and_self, true_and, and_true, true_or, or_true, Bool.false_eq_true, reduceCtorEq, h8, sX4_workedOut_123, sX4_workedOut_124, sX4_workedOut_125, e2]
          by_cases h2 : top < 2
          · simp only [h2, if_true]
            simp only [sX4_workedOut_158, sX4_workedOut_161, am_n1]
            have ex : xStep nm s (top, f) = (top, f) := by unfold xStep; rw [if_pos h6, if_pos h8, if_neg (show ¬ 2 ≤ top by omega)]
            rw [ex]
            exact ih (k + 1) top f _ _ (by omega) ht
          · simp only [h2, if_false]
            have em : nI top + -1 = nI (top - 1) := by
              have : nI top = nI (top - 1) + 1 := by rw [am_n1]; congr 1; omega
              rw [this, Int32.add_assoc, show (1 : Int32) + -1 = 0 by decide, Int32.add_zero]
            have em2 : nI (top - 1) - 1 = nI (top - 2) := by
              rw [show (1 : Int32) = nI 1 from rfl, i_sub (by omega)]
              congr 1
            simp only [sX4_workedOut_128, sX4_workedOut_131, sX4_workedOut_132, sX4_workedOut_135, sX4_workedOut_136, sX4_workedOut_137, sX4_workedOut_138, sX4_workedOut_140, sX4_workedOut_141, sX4_workedOut_144, sX4_workedOut_145, sX4_workedOut_146, sX4_workedOut_147, sX4_workedOut_148, sX4_workedOut_149, sX4_workedOut_152, sX4_workedOut_153, sX4_workedOut_154, sX4_workedOut_157, wo_7, wf_7_0, wv_7_0, wf_7_1, wv_7_1, wf_7_2, wv_7_2, wf_7_3, wv_7_3, wp_7_3, wf_7_4, wv_7_4, wf_7_5, wv_7_5, wi_11, wg_11, ws_11, ww_11, wl_11, wn_11, am_rt_some, am_rt_void, am_rt_none, am_rt_ite, ↓reduceIte, if_true, if_false, and_self, true_and, and_true, true_or, or_true, Bool.false_eq_true, reduceCtorEq, em, em2, am_nin (show top - 2 < 120 by omega) (show (120 : Nat) < 2147483648 by omega), am_nin (show top - 1 < 120 by omega) (show (120 : Nat) < 2147483648 by omega), am_ncl (show top - 2 < 2147483648 by omega), am_ncl (show top - 1 < 2147483648 by omega), am_u_at, am_uu, c_joined h8]
            simp only [sX4_workedOut_158, sX4_workedOut_161, am_n1]
            have ex : xStep nm s (top, f) = (top - 1, upd f (top - 2) (xJoin s (f (top - 2)) (f (top - 1)))) := by unfold xStep; rw [if_pos h6, if_pos h8, if_pos (show 2 ≤ top by omega)]
            rw [ex]
            exact ih (k + 1) (top - 1) _ _ _ (by omega) (by omega)
        · simp only [sX4_workedOut_67, sX4_workedOut_69, sX4_workedOut_71, sX4_workedOut_74, sX4_workedOut_75, sX4_workedOut_76, am_rt_some, am_rt_void, am_rt_none, am_rt_ite, ↓reduceIte, if_true, if_false, and_self, true_and, and_true, true_or, or_true, Bool.false_eq_true, reduceCtorEq, h8, e1]
          by_cases h1 : top < 1
          · simp only [h1, if_true]
            simp only [sX4_workedOut_158, sX4_workedOut_161, am_n1]
            have ex : xStep nm s (top, f) = (top, f) := by unfold xStep; rw [if_pos h6, if_neg h8, if_neg (show ¬ 1 ≤ top by omega)]
            rw [ex]
            exact ih (k + 1) top f _ _ (by omega) ht
          · simp only [h1, if_false]
            have em : nI top - 1 = nI (top - 1) := by
              rw [show (1 : Int32) = nI 1 from rfl, i_sub (by omega)]
            have ex : xStep nm s (top, f) = (top, upd f (top - 1) (if s = -8 then - f (top - 1) else if f (top - 1) = 0 then 1 else 0)) := by unfold xStep; rw [if_pos h6, if_neg h8, if_pos (show 1 ≤ top by omega)]
            rw [ex]
            simp only [sX4_workedOut_79, sX4_workedOut_80, sX4_workedOut_83, sX4_workedOut_84, sX4_workedOut_85, sX4_workedOut_86, sX4_workedOut_87, sX4_workedOut_89, sX4_workedOut_90, sX4_workedOut_93, sX4_workedOut_94, sX4_workedOut_95, sX4_workedOut_96, sX4_workedOut_98, sX4_workedOut_100, sX4_workedOut_103, sX4_workedOut_105, sX4_workedOut_106, sX4_workedOut_109, sX4_workedOut_111, sX4_workedOut_114, sX4_workedOut_115, sX4_workedOut_118, sX4_workedOut_119, wo_7, wf_7_0, wv_7_0, wf_7_1, wv_7_1, wf_7_2, wv_7_2, wf_7_3, wv_7_3, wp_7_3, wf_7_4, wv_7_4, wf_7_5, wv_7_5, wi_11, wg_11, ws_11, ww_11, wl_11, wn_11, am_rt_some, am_rt_void, am_rt_none, am_rt_ite, ↓reduceIte, if_true, if_false, and_self, true_and, and_true, true_or, or_true, Bool.false_eq_true, reduceCtorEq, em, am_nin (show top - 1 < 120 by omega) (show (120 : Nat) < 2147483648 by omega), am_ncl (show top - 1 < 2147483648 by omega), am_u_at, am_uu]
            by_cases g1 : s = -8
            · simp only [g1, if_true]
              simp only [sX4_workedOut_120, sX4_workedOut_158, sX4_workedOut_161, am_n1]
              exact ih (k + 1) top _ _ _ (by omega) ht
            · by_cases g2 : f (top - 1) = 0
              · simp only [g1, g2, if_true, if_false]
                simp only [sX4_workedOut_120, sX4_workedOut_158, sX4_workedOut_161, am_n1]
                exact ih (k + 1) top _ _ _ (by omega) ht
              · simp only [g1, g2, if_false]
                simp only [sX4_workedOut_120, sX4_workedOut_158, sX4_workedOut_161, am_n1]
                exact ih (k + 1) top _ _ _ (by omega) ht
      · simp only [h6, if_false, sX4_workedOut_27, sX4_workedOut_28, sX4_workedOut_29, sX4_workedOut_32, sX4_workedOut_33, wo_7, wf_7_0, wv_7_0, wf_7_1, wv_7_1, wf_7_2, wv_7_2, wf_7_3, wv_7_3, wp_7_3, wf_7_4, wv_7_4, wf_7_5, wv_7_5, wi_11, wg_11, ws_11, ww_11, wl_11, wn_11, am_rt_some, am_rt_void, am_rt_none, am_rt_ite, ↓reduceIte, if_true, if_false, and_self, true_and, and_true, true_or, or_true, Bool.false_eq_true, reduceCtorEq, et]
        by_cases ht2 : top < 120
        · simp only [ht2, if_true]
          by_cases g1 : s < 0
          · obtain ⟨j, j1, j2⟩ := nm_ix h6 g1
            have ex : xStep nm s (top, f) = (top + 1, upd f top (nm j)) := by unfold xStep; rw [if_neg h6, if_pos (show top < 120 by omega), if_pos g1, j2, am_ncl (show j < 2147483648 by omega)]
            rw [ex]
            simp only [sX4_workedOut_36, sX4_workedOut_37, sX4_workedOut_40, sX4_workedOut_41, sX4_workedOut_44, sX4_workedOut_46, sX4_workedOut_49, sX4_workedOut_51, sX4_workedOut_54, sX4_workedOut_55, sX4_workedOut_58, sX4_workedOut_59, sX4_workedOut_61, sX4_workedOut_62, sX4_workedOut_63, wo_7, wf_7_0, wv_7_0, wf_7_1, wv_7_1, wf_7_2, wv_7_2, wf_7_3, wv_7_3, wp_7_3, wf_7_4, wv_7_4, wf_7_5, wv_7_5, wi_11, wg_11, ws_11, ww_11, wl_11, wn_11, wi_12, wg_12, ws_12, ww_12, wl_12, wn_12, am_rt_some, am_rt_void, am_rt_none, am_rt_ite, ↓reduceIte, if_true, if_false, and_self, true_and, and_true, true_or, or_true, Bool.false_eq_true, reduceCtorEq, g1, j2, am_n1, am_nin (show top < 120 by omega) (show (120 : Nat) < 2147483648 by omega), am_nin (show j < 6 by omega) (show (6 : Nat) < 2147483648 by omega), am_ncl (show top < 2147483648 by omega), am_ncl (show j < 2147483648 by omega), am_u_ne (show (12 : Nat) ≠ 11 by decide), am_u_at, am_uu, hnm j j1]
            simp only [sX4_workedOut_64, sX4_workedOut_158, sX4_workedOut_161, am_n1]
            exact ih (k + 1) (top + 1) _ _ _ (by omega) (by omega)
          · have ex : xStep nm s (top, f) = (top + 1, upd f top s) := by unfold xStep; rw [if_neg h6, if_pos (show top < 120 by omega), if_neg g1]
            rw [ex]
            simp only [sX4_workedOut_36, sX4_workedOut_37, sX4_workedOut_40, sX4_workedOut_41, sX4_workedOut_44, sX4_workedOut_46, sX4_workedOut_49, sX4_workedOut_51, sX4_workedOut_54, sX4_workedOut_55, sX4_workedOut_58, sX4_workedOut_59, sX4_workedOut_61, sX4_workedOut_62, sX4_workedOut_63, wo_7, wf_7_0, wv_7_0, wf_7_1, wv_7_1, wf_7_2, wv_7_2, wf_7_3, wv_7_3, wp_7_3, wf_7_4, wv_7_4, wf_7_5, wv_7_5, wi_11, wg_11, ws_11, ww_11, wl_11, wn_11, am_rt_some, am_rt_void, am_rt_none, am_rt_ite, ↓reduceIte, if_true, if_false, and_self, true_and, and_true, true_or, or_true, Bool.false_eq_true, reduceCtorEq, g1, am_n1, am_nin (show top < 120 by omega) (show (120 : Nat) < 2147483648 by omega), am_ncl (show top < 2147483648 by omega), am_u_at, am_uu]
            simp only [sX4_workedOut_64, sX4_workedOut_158, sX4_workedOut_161, am_n1]
            exact ih (k + 1) (top + 1) _ _ _ (by omega) (by omega)
        · simp only [ht2, if_false]
          simp only [sX4_workedOut_158, sX4_workedOut_161, am_n1]
          have ex : xStep nm s (top, f) = (top, f) := by unfold xStep; rw [if_neg h6, if_neg (show ¬ top < 120 from ht2)]
          rw [ex]
          exact ih (k + 1) top f _ _ (by omega) ht
  simp only [eX4_workedOut, sX4_workedOut_0, sX4_workedOut_1, sX4_workedOut_2, sX4_workedOut_3]
  have e0 : am_u A 11 (A 11) = A := by
    funext j
    by_cases h : j = 11 <;> simp [am_u, h]
  have := key (b - a) a 0 (A 11) (.retAddr 0) (.retAddr 0) (by omega) (by omega)
  rw [e0] at this
  exact this
def nmv (s t m f i w : Int32) : NM := fun j => if j = 0 then s else if j = 1 then t else if j = 2 then m else if j = 3 then f else if j = 4 then i else w
def cl20 (x : Int32) : Int32 := if -20 < (if x < 20 then x else 20) then (if x < 20 then x else 20) else -20
def cl99 (x : Int32) : Int32 := if 0 < (if x < 99 then x else 99) then (if x < 99 then x else 99) else 0
def gT (G : VF) (s t m f i w : Int32) : Int32 := cl99 (t + cl20 (G (nmv s t m f i w)))
theorem xVal.out {st : Nat → Int32} {a b : Nat} {v : VF} (h : xVal st a b v) (hb : b ≤ 120) (nm : NM) (f : Nat → Int32) : xOut (xRun st nm (b - a) a (0, f)) = v nm := by
  obtain ⟨f', h1, h2, -⟩ := h.2 nm 0 f (by omega)
  rw [h1]
  exact h2
theorem lnV_drop {l : List LN} {nm : NM} {j : Nat} {x : LN} (h : l[j]? = some x) : l.drop j = x :: l.drop (j + 1) := by
  rw [List.getElem?_eq_some_iff] at h
  obtain ⟨h1, h2⟩ := h
  rw [← h2]
  exact List.drop_eq_getElem_cons h1
theorem c_grown {G : VF} {s t m f i v : Int32} (hG : cLaw G (A 8) (A 9) (A 10) (I 7 3)) : am_T (am_CL X (d + 3) mX4_grown [.ref 7, .int s, .int t, .int m, .int f, .int i, .int v] (am_wd I A J)) (oI (gT G s t m f i v) (Fr [] [11, 12] [] I A J)) := by
  have fin : ∀ (by_ : Int32) (z8 z9 z10 : Value) (A1 : TI), by_ = G (nmv s t m f i v) → Fr [] [11, 12] [] I A J I A1 J → am_T (am_EV X (d + 2) mX4_grown 153 [.ref 7, .int s, .int t, .int m, .int f, .int i, .int v, .int by_, z8, z9, z10] [] (am_wd I A1 J)) (oI (gT G s t m f i v) (Fr [] [11, 12] [] I A J)) := by
    intro by_ z8 z9 z10 A1 e g
    simp only [sX4_grown_153, sX4_grown_155, sX4_grown_157, sX4_grown_159, sX4_grown_162, sX4_grown_165, sX4_grown_167, sX4_grown_168, sX4_grown_170, sX4_grown_171, sX4_grown_173, sX4_grown_174, sX4_grown_177, sX4_grown_180]
    refine am_T.ri' ?_ g
    unfold gT
    rw [← e]
    rfl
  have names : ∀ (by_ : Int32) (A1 : TI), Fr [] [11, 12] [] I A J I A1 J → ∃ A2 : TI, Fr [] [11, 12] [] I A J I A2 J ∧ (∀ j, j < 6 → A2 12 j = nmv s t m f i v j) ∧ am_EV X (d + 2) mX4_grown 33 [.ref 7, .int s, .int t, .int m, .int f, .int i, .int v, .int by_, .retAddr 0, .retAddr 0, .retAddr 0] [] (am_wd I A1 J) = am_EV X (d + 2) mX4_grown 84 [.ref 7, .int s, .int t, .int m, .int f, .int i, .int v, .int by_, .int 0, .int 0, .retAddr 0] [] (am_wd I A2 J) := by
    intro by_ A1 g
    refine ⟨am_u A1 12 (upd (upd (upd (upd (upd (upd (A1 12) 0 s) 1 t) 2 m) 3 f) 4 i) 5 v), g.ua (by decide), ?_, ?_⟩
    · intro j hj
      rcases (by omega : j = 0 ∨ j = 1 ∨ j = 2 ∨ j = 3 ∨ j = 4 ∨ j = 5) with rfl | rfl | rfl | rfl | rfl | rfl <;> simp [am_u, upd, nmv]
    · simp only [sX4_grown_33, sX4_grown_34, sX4_grown_37, sX4_grown_38, sX4_grown_39, sX4_grown_40, sX4_grown_41, sX4_grown_44, sX4_grown_45, sX4_grown_46, sX4_grown_47, sX4_grown_48, sX4_grown_51, sX4_grown_52, sX4_grown_53, sX4_grown_54, sX4_grown_55, sX4_grown_58, sX4_grown_59, sX4_grown_61, sX4_grown_62, sX4_grown_63, sX4_grown_66, sX4_grown_67, sX4_grown_69, sX4_grown_70, sX4_grown_71, sX4_grown_74, sX4_grown_75, sX4_grown_77, sX4_grown_78, sX4_grown_79, sX4_grown_81, sX4_grown_82, wo_7, wf_7_0, wv_7_0, wf_7_1, wv_7_1, wf_7_2, wv_7_2, wf_7_3, wv_7_3, wp_7_3, wf_7_4, wv_7_4, wf_7_5, wv_7_5, wi_12, wg_12, ws_12, ww_12, wl_12, wn_12, am_rt_some, am_rt_void, am_rt_none, am_rt_ite, ↓reduceIte, if_true, if_false, and_self, true_and, and_true, true_or, or_true, Bool.false_eq_true, reduceCtorEq, show am_in 0 6 = true from rfl, show am_in 1 6 = true from rfl, show am_in 2 6 = true from rfl, show am_in 3 6 = true from rfl, show am_in 4 6 = true from rfl, show am_in 5 6 = true from rfl, am_u_at, am_uu]
      rfl
  rcases hG with ⟨h0, hG⟩ | ⟨l, l0, l60, hl, hG, hc⟩
  · simp only [eX4_grown, sX4_grown_0, sX4_grown_1, sX4_grown_3, sX4_grown_4, sX4_grown_7, sX4_grown_10, sX4_grown_11, sX4_grown_12, sX4_grown_13, sX4_grown_14, sX4_grown_16, sX4_grown_17, sX4_grown_18, sX4_grown_19, sX4_grown_22, sX4_grown_24, sX4_grown_25, sX4_grown_26, sX4_grown_29, sX4_grown_30, sX4_grown_31, wo_7, wf_7_0, wv_7_0, wf_7_1, wv_7_1, wf_7_2, wv_7_2, wf_7_3, wv_7_3, wp_7_3, wf_7_4, wv_7_4, wf_7_5, wv_7_5, am_rt_some, am_rt_void, am_rt_none, am_rt_ite, ↓reduceIte, if_true, if_false, and_self, true_and, and_true, true_or, or_true, Bool.false_eq_true, reduceCtorEq, h0, show ((4 : Int32) = 0) = False by decide, show ((10 : Int32) = 0) = False by decide, show ((5 : Int32) = 0) = False by decide]
    have body : ∀ by_ : Int32, by_ = G (nmv s t m f i v) → am_T (am_EV X (d + 2) mX4_grown 33 [.ref 7, .int s, .int t, .int m, .int f, .int i, .int v, .int by_, .retAddr 0, .retAddr 0, .retAddr 0] [] (am_wd I A J)) (oI (gT G s t m f i v) (Fr [] [11, 12] [] I A J)) := by
      intro by_ e
      obtain ⟨A2, g1, g2, g3⟩ := names by_ A Fr.rf
      rw [g3]
      simp only [sX4_grown_84, sX4_grown_86, sX4_grown_87, sX4_grown_90, wo_7, wf_7_0, wv_7_0, wf_7_1, wv_7_1, wf_7_2, wv_7_2, wf_7_3, wv_7_3, wp_7_3, wf_7_4, wv_7_4, wf_7_5, wv_7_5, am_rt_some, am_rt_void, am_rt_none, am_rt_ite, ↓reduceIte, if_true, if_false, and_self, true_and, and_true, true_or, or_true, Bool.false_eq_true, reduceCtorEq, h0, show ((0 : Int32) < 0) = False by decide]
      exact fin _ _ _ _ A2 e g1
    have e : G (nmv s t m f i v) = s / 4 - t / 10 + (if 0 < s then f / 5 else 0) := by rw [hG]; rfl
    by_cases q : 0 < s
    · rw [if_pos q]
      exact body _ (by rw [e, if_pos q])
    · rw [if_neg q]
      exact body _ (by rw [e, if_neg q])
  · have hn0 : (nI l.length = 0) = False := eq_false (nI_ne0 (by omega) (by omega))
    have h73 : I 7 3 = nI l.length := hl
    simp only [eX4_grown, sX4_grown_0, sX4_grown_1, sX4_grown_3, sX4_grown_4, sX4_grown_7, wo_7, wf_7_0, wv_7_0, wf_7_1, wv_7_1, wf_7_2, wv_7_2, wf_7_3, wv_7_3, wp_7_3, wf_7_4, wv_7_4, wf_7_5, wv_7_5, am_rt_some, am_rt_void, am_rt_none, am_rt_ite, ↓reduceIte, if_true, if_false, and_self, true_and, and_true, true_or, or_true, Bool.false_eq_true, reduceCtorEq, h73, hn0]
    obtain ⟨A2, g1, g2, g3⟩ := names 0 A Fr.rf
    rw [g3]
    obtain ⟨fr, mi, f0, hj⟩ := hc
    have key : ∀ (k j : Nat) (z10 : Value) (A3 : TI), j + k = l.length → Fr [] [11, 12] [] I A J I A3 J → (∀ j, j < 6 → A3 12 j = nmv s t m f i v j) → G (nmv s t m f i v) = lnV (l.drop j) (nmv s t m f i v) → am_T (am_EV X (d + 2) mX4_grown 84 [.ref 7, .int s, .int t, .int m, .int f, .int i, .int v, .int 0, .int (nI (fr j)), .int (nI j), z10] [] (am_wd I A3 J)) (oI (gT G s t m f i v) (Fr [] [11, 12] [] I A J)) := by
      intro k
      induction k with
      | zero =>
        intro j z10 A3 hjk fr3 hnm e
        have hjl : j = l.length := by omega
        subst hjl
        simp only [sX4_grown_84, sX4_grown_86, sX4_grown_87, sX4_grown_90, wo_7, wf_7_0, wv_7_0, wf_7_1, wv_7_1, wf_7_2, wv_7_2, wf_7_3, wv_7_3, wp_7_3, wf_7_4, wv_7_4, wf_7_5, wv_7_5, am_rt_some, am_rt_void, am_rt_none, am_rt_ite, ↓reduceIte, if_true, if_false, and_self, true_and, and_true, true_or, or_true, Bool.false_eq_true, reduceCtorEq, h73, am_nlt (show l.length < 2147483648 by omega) (show l.length < 2147483648 by omega), Nat.lt_irrefl]
        refine fin _ _ _ _ A3 ?_ fr3
        rw [e, List.drop_length]
        rfl
      | succ k ih =>
        intro j z10 A3 hjk fr3 hnm e
        have hjl : j < l.length := by omega
        obtain ⟨a1, a2, a3, a4, a5⟩ := hj j hjl
        obtain ⟨x, hx⟩ : ∃ x, l[j]? = some x := ⟨l[j], List.getElem?_eq_getElem hjl⟩
        obtain ⟨b1, b2⟩ := a5 x hx
        have b2lt := b2.1
        have e8 : A3 8 = A 8 := fr3.a 8 (by decide)
        have e9 : A3 9 = A 9 := fr3.a 9 (by decide)
        have e10 : A3 10 = A 10 := fr3.a 10 (by decide)
        rw [lnV_drop (nm := nmv s t m f i v) hx] at e
        have hlt : (nI j < nI l.length) = True := by rw [am_nlt (show j < 2147483648 by omega) (show l.length < 2147483648 by omega)]; exact eq_true hjl
        rw [sX4_grown_84]
        simp only [sX4_grown_86, sX4_grown_87, sX4_grown_90, sX4_grown_93, sX4_grown_94, sX4_grown_97, sX4_grown_99, sX4_grown_100, sX4_grown_102, sX4_grown_104, sX4_grown_106, wo_7, wf_7_0, wv_7_0, wf_7_1, wv_7_1, wf_7_2, wv_7_2, wf_7_3, wv_7_3, wp_7_3, wf_7_4, wv_7_4, wf_7_5, wv_7_5, wi_9, wg_9, ws_9, ww_9, wl_9, wn_9, am_rt_some, am_rt_void, am_rt_none, am_rt_ite, ↓reduceIte, if_true, if_false, and_self, true_and, and_true, true_or, or_true, Bool.false_eq_true, reduceCtorEq, h73, hlt, am_nin (show j < 60 by omega) (show (60 : Nat) < 2147483648 by omega), am_ncl (show j < 2147483648 by omega), e9, a1, i_eq (show mi j < 2147483648 by omega) (show fr j < 2147483648 by omega)]
        have take : ∀ (A4 : TI), Fr [] [11, 12] [] I A J I A4 J → (∀ j, j < 6 → A4 12 j = nmv s t m f i v j) → G (nmv s t m f i v) = x.2 (nmv s t m f i v) → am_T (am_EV X (d + 2) mX4_grown 120 [.ref 7, .int s, .int t, .int m, .int f, .int i, .int v, .int 0, .int (nI (fr j)), .int (nI j), .int (nI (mi j))] [] (am_wd I A4 J)) (oI (gT G s t m f i v) (Fr [] [11, 12] [] I A J)) := by
          intro A4 fr4 hnm4 e4
          have e8 : A4 8 = A 8 := fr4.a 8 (by decide)
          have e10 : A4 10 = A 10 := fr4.a 10 (by decide)
          simp only [sX4_grown_120, sX4_grown_121, sX4_grown_123, sX4_grown_124, sX4_grown_127, sX4_grown_129, sX4_grown_130, sX4_grown_133, sX4_grown_135, wo_7, wf_7_0, wv_7_0, wf_7_1, wv_7_1, wf_7_2, wv_7_2, wf_7_3, wv_7_3, wp_7_3, wf_7_4, wv_7_4, wf_7_5, wv_7_5, wi_10, wg_10, ws_10, ww_10, wl_10, wn_10, am_rt_some, am_rt_void, am_rt_none, am_rt_ite, ↓reduceIte, if_true, if_false, and_self, true_and, and_true, true_or, or_true, Bool.false_eq_true, reduceCtorEq, am_nin (show j < 60 by omega) (show (60 : Nat) < 2147483648 by omega), am_ncl (show j < 2147483648 by omega), e10, a2, c_workedOut (I := I) (A := A4) (J := J) a3 (Nat.le_of_lt b2lt) hnm4]
          refine fin _ _ _ _ _ ?_ (fr4.ua (by decide))
          rw [e8, b2.out a3]
          exact e4.symm
        by_cases q : mi j = fr j
        · rw [if_pos q]
          refine take A3 fr3 hnm ?_
          cases hx1 : x.1 with
          | none =>
            rw [e]
            obtain ⟨x1, x2⟩ := x
            cases hx1
            rfl
          | some c =>
            rw [hx1] at b1
            have := b1.1
            omega
        · rw [if_neg q]
          cases hx1 : x.1 with
          | none =>
            rw [hx1] at b1
            exact absurd b1 q
          | some c =>
            rw [hx1] at b1
            have b1lt := b1.1
            simp only [sX4_grown_109, sX4_grown_110, sX4_grown_112, sX4_grown_114, sX4_grown_117, wo_7, wf_7_0, wv_7_0, wf_7_1, wv_7_1, wf_7_2, wv_7_2, wf_7_3, wv_7_3, wp_7_3, wf_7_4, wv_7_4, wf_7_5, wv_7_5, am_rt_some, am_rt_void, am_rt_none, am_rt_ite, ↓reduceIte, if_true, if_false, and_self, true_and, and_true, true_or, or_true, Bool.false_eq_true, reduceCtorEq, c_workedOut (I := I) (A := A3) (J := J) (show mi j ≤ 120 by omega) a4 hnm, e8, b1.out (show mi j ≤ 120 by omega)]
            have e' : G (nmv s t m f i v) = if c (nmv s t m f i v) = 0 then lnV (l.drop (j + 1)) (nmv s t m f i v) else x.2 (nmv s t m f i v) := by
              rw [e]
              obtain ⟨x1, x2⟩ := x
              cases hx1
              rfl
            by_cases q2 : c (nmv s t m f i v) = 0
            · rw [if_pos q2]
              rw [if_pos q2] at e'
              simp only [sX4_grown_138, sX4_grown_139, sX4_grown_142, sX4_grown_144, sX4_grown_145, sX4_grown_147, sX4_grown_150, wo_7, wf_7_0, wv_7_0, wf_7_1, wv_7_1, wf_7_2, wv_7_2, wf_7_3, wv_7_3, wp_7_3, wf_7_4, wv_7_4, wf_7_5, wv_7_5, wi_10, wg_10, ws_10, ww_10, wl_10, wn_10, am_rt_some, am_rt_void, am_rt_none, am_rt_ite, ↓reduceIte, if_true, if_false, and_self, true_and, and_true, true_or, or_true, Bool.false_eq_true, reduceCtorEq, am_nin (show j < 60 by omega) (show (60 : Nat) < 2147483648 by omega), am_ncl (show j < 2147483648 by omega), am_u_ne (show (10 : Nat) ≠ 11 by decide), e10, a2, am_n1]
              exact ih (j + 1) _ _ (by omega) (fr3.ua (by decide)) (fun k hk => by rw [am_u_ne (show (12 : Nat) ≠ 11 by decide)]; exact hnm k hk) e'
            · rw [if_neg q2]
              rw [if_neg q2] at e'
              exact take _ (fr3.ua (by decide)) (fun k hk => by rw [am_u_ne (show (12 : Nat) ≠ 11 by decide)]; exact hnm k hk) e'
    have := key l.length 0 (.retAddr 0) A2 (by omega) g1 g2 (by rw [hG]; rfl)
    rw [f0] at this
    exact this
end GR


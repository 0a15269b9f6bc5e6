/-! SOUND, 2: one step that isn't a call of ours -/
theorem am_in_iff {i : Int32} {n : Nat} : am_in i n = true ↔ vp_in i n := by
  unfold am_in vp_in
  simp only [Bool.and_eq_true, Bool.not_eq_true', decide_eq_false_iff_not, decide_eq_true_eq]
  constructor
  · rintro ⟨h1, h2⟩ (h | h)
    · exact h1 h
    · omega
  · intro h
    exact ⟨fun q => h (Or.inl q), Nat.not_le.mp fun q => h (Or.inr q)⟩
theorem am_isI_spec {t : Nat} {c : am_C} {i : Int32} (h : am_isI t c i = true) : ∃ n f, c = .inl (t, n, .inl f) ∧ vp_in i n := by
  unfold am_isI at h
  split at h
  · rename_i t' n f
    simp only [Bool.and_eq_true, beq_iff_eq] at h
    obtain ⟨rfl, h⟩ := h
    exact ⟨n, f, rfl, am_in_iff.mp h⟩
  · cases h
theorem am_isJ_spec {t : Nat} {c : am_C} {i : Int32} (h : am_isJ t c i = true) : ∃ n f, c = .inl (t, n, .inr (.inl f)) ∧ vp_in i n := by
  unfold am_isJ at h
  split at h
  · rename_i t' n f
    simp only [Bool.and_eq_true, beq_iff_eq] at h
    obtain ⟨rfl, h⟩ := h
    exact ⟨n, f, rfl, am_in_iff.mp h⟩
  · cases h
theorem am_isA_spec {c : am_C} {i : Int32} (h : am_isA c i = true) : ∃ t n f, c = .inl (t, n, .inr (.inr (.inr (.inr f)))) ∧ vp_in i n ∧ (t = 3 ∨ t = 4) := by
  unfold am_isA at h
  split at h
  · rename_i t n f
    simp only [Bool.and_eq_true, Bool.or_eq_true, beq_iff_eq] at h
    exact ⟨t, n, f, rfl, am_in_iff.mp h.2, h.1⟩
  · cases h
theorem am_isF_spec {ci k : Nat} {c : am_C} (h : am_isF ci k c = true) : ∃ fs, c = .inr (ci, fs) ∧ k < fs.length := by
  unfold am_isF at h
  split at h
  · rename_i o
    obtain ⟨a, fs⟩ := o
    simp only [Bool.and_eq_true, beq_iff_eq, decide_eq_true_eq] at h
    obtain ⟨rfl, h⟩ := h
    exact ⟨fs, rfl, h⟩
  · cases h
theorem am_isO_spec {ci : Nat} {c : am_C} (h : am_isO ci c = true) : ∃ fs, c = .inr (ci, fs) := by
  unfold am_isO at h
  split at h
  · rename_i o
    obtain ⟨a, fs⟩ := o
    simp only [beq_iff_eq] at h
    subst h
    exact ⟨fs, rfl⟩
  · cases h
theorem am_typ : ∀ {ci : Nat} {C : vw_C}, vwCl[ci]? = some C → (∀ k, k < C.2.2 → parseFieldDescriptor (C.2.1 k).2.2.1 = some (am_ty ci k)) ∧ (∀ a, a < C.2.2 → ∀ b, b < C.2.2 → a ≠ b → (C.2.1 a).2.1 ≠ (C.2.1 b).2.1)
  | 0, _, h => by cases h; exact ⟨tyX0_ok, nmX0⟩
  | 1, _, h => by cases h; exact ⟨tyX1_ok, nmX1⟩
  | 2, _, h => by cases h; exact ⟨tyX2_ok, nmX2⟩
  | 3, _, h => by cases h; exact ⟨tyX3_ok, nmX3⟩
  | 4, _, h => by cases h; exact ⟨tyX4_ok, nmX4⟩
  | 5, _, h => by cases h; exact ⟨tyX5_ok, nmX5⟩
  | 6, _, h => by cases h; exact ⟨tyX6_ok, nmX6⟩
  | 7, _, h => by cases h; exact ⟨tyX7_ok, nmX7⟩
  | 8, _, h => by cases h; exact ⟨tyX8_ok, nmX8⟩
  | 9, _, h => by cases h; exact ⟨tyX9_ok, nmX9⟩
  | 10, _, h => by cases h; exact ⟨tyX10_ok, nmX10⟩
  | 11, _, h => by cases h; exact ⟨tyX11_ok, nmX11⟩
  | n + 12, _, h => by
    have := (List.getElem?_eq_some_iff.mp h).1
    simp at this
    omega
theorem am_decl_b : (List.range 12).all (fun ci => match vwCl[ci]? with
  | some C => (List.range C.2.2).all (fun k => decide ((C.2.1 k).1 = am_own ci))
  | none => false) = true := by decide +kernel
theorem am_decl {ci k : Nat} {C : vw_C} (h : vwCl[ci]? = some C) (hk : k < C.2.2) : (C.2.1 k).1 = am_own ci := by
  have hc : ci < 12 := by
    have := (List.getElem?_eq_some_iff.mp h).1
    simpa using this
  have h1 := List.all_eq_true.mp am_decl_b ci (List.mem_range.mpr hc)
  rw [h] at h1
  have h2 := List.all_eq_true.mp h1 k (List.mem_range.mpr hk)
  simpa using h2
theorem am_tF_spec {ow i : Nat} {q : Nat × Nat × Nat × Bool} (h : am_lq ow i am_tF = some q) : ∃ C, vwCl[q.1]? = some C ∧ q.2.1 < C.2.2 ∧ (q.2.2.2 = true → ow ≠ q.1) ∧ ((q.2.2.2 = false ∧ Cond.fieldLink (am_own ow) i (C.2.1 q.2.1).1 (C.2.1 q.2.1).2.1 (C.2.1 q.2.1).2.2.1 ∈ am_gw) ∨ (q.2.2.2 = true ∧ Cond.fieldLinkNest (am_own ow) i (C.2.1 q.2.1).1 (C.2.1 q.2.1).2.1 (C.2.1 q.2.1).2.2.1 "SoupCourt" ∈ am_nw)) := by
  obtain ⟨hi, hm⟩ := am_lq_mem h
  have h1 := List.all_eq_true.mp am_tF_ok _ hm
  unfold am_chF at h1
  simp only [(am_key hi).1, (am_key hi).2] at h1
  split at h1
  · rename_i C hC
    simp only [Bool.and_eq_true, decide_eq_true_eq, Bool.not_eq_true', Bool.and_eq_false_iff, beq_eq_false_iff_ne] at h1
    refine ⟨C, hC, h1.1.1, fun hn => ?_, ?_⟩
    · rcases h1.1.2 with h2 | h2
      · rw [hn] at h2; cases h2
      · exact h2
    · have h2 := h1.2
      unfold am_wF at h2
      cases hn : q.2.2.2 with
      | false =>
        rw [hn] at h2
        exact Or.inl ⟨rfl, am_gw_at h2 rfl⟩
      | true =>
        rw [hn] at h2
        exact Or.inr ⟨rfl, am_nw_at h2 rfl⟩
  · cases h1
theorem am_tC_spec {ow i : Nat} {q : Nat × Nat × Nat × Nat} (h : am_lq ow i am_tC = some q) : ∃ C, vwCl[q.1]? = some C ∧ Cond.classLink (am_own ow) i C.1 ∈ am_gw ∧ Cond.instantiable C.1 C.2.2 ∈ am_gw ∧ Cond.initialized C.1 ∈ am_gw ∧ C.2.2 = am_N q.1 := by
  obtain ⟨hi, hm⟩ := am_lq_mem h
  have h1 := List.all_eq_true.mp am_tC_ok _ hm
  unfold am_chC at h1
  simp only [(am_key hi).1, (am_key hi).2] at h1
  split at h1
  · rename_i C hC
    simp only [Bool.and_eq_true, decide_eq_true_eq] at h1
    exact ⟨C, hC, am_gw_at h1.1.1.1 rfl, am_gw_at h1.1.1.2 rfl, am_gw_at h1.1.2 rfl, h1.2⟩
  · cases h1
theorem am_tS_spec {ow i : Nat} {q : UInt32 × Nat × Bool} (h : am_lq ow i am_tS = some q) : 1 ≤ q.1 ∧ q.1 ≤ 5 ∧ Cond.fieldLink (am_own ow) i (am_sN q.1).1 (am_sN q.1).2 "[I" ∈ am_gw := by
  obtain ⟨hi, hm⟩ := am_lq_mem h
  have h1 := List.all_eq_true.mp am_tS_ok _ hm
  unfold am_chS at h1
  simp only [(am_key hi).1, (am_key hi).2, Bool.and_eq_true, decide_eq_true_eq] at h1
  exact ⟨h1.1.1.1, h1.1.1.2, am_gw_at h1.2 rfl⟩
theorem am_tI_spec {ow i : Nat} {q : Int32 × Nat} (h : am_lq ow i am_tI = some q) : Cond.constant (am_own ow) i q.1 ∈ am_gw := by
  obtain ⟨hi, hm⟩ := am_lq_mem h
  have h1 := List.all_eq_true.mp am_tI_ok _ hm
  unfold am_chI at h1
  simp only [(am_key hi).1, (am_key hi).2, decide_eq_true_eq] at h1
  exact am_gw_at h1 rfl
theorem am_tJ_spec {ow i : Nat} {q : Int64 × Nat} (h : am_lq ow i am_tJ = some q) : Cond.constantLong (am_own ow) i q.1 ∈ am_gw := by
  obtain ⟨hi, hm⟩ := am_lq_mem h
  have h1 := List.all_eq_true.mp am_tJ_ok _ hm
  unfold am_chJ at h1
  simp only [(am_key hi).1, (am_key hi).2, decide_eq_true_eq] at h1
  exact am_gw_at h1 rfl
theorem am_nx_some {k len pc : Nat} {L S : List Value} {w : am_W} {pc' : Nat} {L' S' : List Value} {w' : am_W} (h : am_nx k len pc L S w = some (.inr (.inl (pc', L', S', w')))) : len = k ∧ pc' = pc + k ∧ L' = L ∧ S' = S ∧ w' = w := by
  unfold am_nx at h
  split at h
  · rename_i hl
    cases h
    exact ⟨hl, rfl, rfl, rfl, rfl⟩
  · cases h
theorem am_jp_some {pc : Nat} {off : Int} {L S : List Value} {w : am_W} {pc' : Nat} {L' S' : List Value} {w' : am_W} (h : am_jp pc off L S w = some (.inr (.inl (pc', L', S', w')))) : (pc : Int) + off = (pc' : Int) ∧ L' = L ∧ S' = S ∧ w' = w := by
  unfold am_jp at h
  split at h
  · rename_i hl
    cases h
    exact ⟨(Int.toNat_of_nonneg hl).symm, rfl, rfl, rfl⟩
  · cases h
def am_Cx (p : Program) (s : State) (m : MethodId) (args : Array Value) (meth : Method) (c : Code) (D : va_G) (cT : Nat → ClassId) (b0 : Nat) (oa : UInt32 → Nat) (X : Nat × (Nat → Int32)) (M : am_M) : Prop :=
  p.tables.exec = Jvm.exec ∧ c.code = M.2.2.1 ∧ c.maxLocals = M.2.2.2.1 ∧ s.vm.findClass (am_own M.1) = some m.cls ∧ (∀ w ∈ am_gw, w.before args s = true) ∧ meth.sig.returnType = M.2.2.2.2 ∧ meth.locks = false ∧ (M.2.1.name = "<init>" → meth.name = "<init>") ∧ b0 ≤ s.heap.size ∧ am_E D cT b0 oa X s s.heap
def am_Sm (s : State) (D : va_G) (cT : Nat → ClassId) (b0 : Nat) (oa : UInt32 → Nat) (M : am_M) (H : Heap) (locs : List Loc) (cells : Nat) (ls : Array Slot) (L : List Value) (w : am_W) : Prop := am_H D cT b0 oa w H ∧ va_S (am_A b0) s.heap H locs ∧ lv_has ls M.2.2.2.1 (am_lo b0 oa L) ∧ L.length = M.2.2.2.1 ∧ s.heap.size + cells = b0 + w.1
section AMA
variable {p : Program} {l : Launch} {e : Env} {R : Room} {s : State} {m : MethodId} {args : Array Value} {below : List Frame} {meth : Method} {c : Code} {H : Heap} {locs : List Loc} {cells slots : Nat} {Q : State → Prop} {ls : Array Slot}
variable {D : va_G} {cT : Nat → ClassId} {b0 : Nat} {oa : UInt32 → Nat} {X : Nat × (Nat → Int32)} {M : am_M}
variable {pc i : Nat} {rest : List Value} {w : am_W} {r : Nat}
theorem am_lt (hH : am_H D cT b0 oa w H) {t : Nat × vp_A} (h : am_rd w r = .inl t) : r < w.1 := by
  rcases Nat.lt_or_ge r w.1 with q | q
  · exact q
  · have := hH.2 r q
    rw [h] at this
    cases this
theorem am_lto (hH : am_H D cT b0 oa w H) {ci : Nat} {fs : List Value} (h : am_rd w r = .inr (ci, fs)) (hn : ci ≠ 1000 ∨ 0 < fs.length) : r < w.1 := by
  rcases Nat.lt_or_ge r w.1 with q | q
  · exact q
  · have := hH.2 r q
    rw [h] at this
    cases this
    rcases hn with hn | hn
    · exact absurd rfl hn
    · simp at hn
theorem am_Hwr (hH : am_H D cT b0 oa w H) {H1 : Heap} {cl : am_C} (hr : r < w.1) (hP : va_P D vwCl ((am_cW cT b0 oa w).set r (b0 + r, am_cE cT b0 oa cl)) H1) : am_H D cT b0 oa (am_wr w r cl) H1 := by
  refine ⟨by rw [← am_cW_wr hr]; exact hP, fun i hi => ?_⟩
  have h1 : w.1 ≤ i := hi
  have h2 : i ≠ r := by omega
  have := hH.2 i h1
  simp only [am_rd, am_wr, h2, if_false] at this ⊢
  exact this
theorem am_Hal (hH : am_H D cT b0 oa w H) {H1 : Heap} {n : Nat} {cl : am_C} (hP : va_P D vwCl (am_cW cT b0 oa w ++ [(b0 + w.1, am_cE cT b0 oa cl)]) H1) : am_H D cT b0 oa (am_al w n cl) H1 := by
  refine ⟨by rw [← am_cW_al n]; exact hP, fun i hi => ?_⟩
  have h1 : w.1 + 1 ≤ i := hi
  have h2 : i ≠ w.1 := by omega
  have := hH.2 i (by omega)
  simp only [am_rd, am_al, h2, if_false] at this ⊢
  exact this
theorem am_sz {g : JFrame} (k : H.size ≤ s.heap.size + cells → W p l e R s m args below meth c H locs cells slots Q g) : W p l e R s m args below meth c H locs cells slots Q g := fun T hT X => k (by rw [← hT]; exact X.heapSize) T hT X
theorem am_Sz (hH : am_H D cT b0 oa w H) (hS : va_S (am_A b0) s.heap H locs) (hz : s.heap.size + cells = b0 + w.1) (hb : b0 ≤ s.heap.size) (hu : H.size ≤ s.heap.size + cells) : H.size = b0 + w.1 := by
  rcases Nat.eq_zero_or_pos w.1 with h | h
  · have := hS.1
    omega
  · have := (hH.1 (w.1 - 1) _ (am_cW_get (by omega))).lt
    simp at this
    omega
end AMA

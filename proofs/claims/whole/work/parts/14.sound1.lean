/-! THE ABSTRACT MACHINE IS SOUND, 1: worlds, locals, surroundings -/
def am_cv (b0 : Nat) (oa : UInt32 → Nat) : Value → Value
  | .ref r => .ref (b0 + r)
  | .float k => .ref (oa k)
  | v => v
def am_cE (cT : Nat → ClassId) (b0 : Nat) (oa : UInt32 → Nat) : am_C → va_E
  | .inl (t, n, .inl f) => .inl (cT t, n, .inl f)
  | .inl (t, n, .inr (.inl f)) => .inl (cT t, n, .inr (.inl f))
  | .inl (t, n, .inr (.inr (.inl f))) => .inl (cT t, n, .inr (.inr (.inl f)))
  | .inl (t, n, .inr (.inr (.inr (.inl f)))) => .inl (cT t, n, .inr (.inr (.inr (.inl f))))
  | .inl (t, n, .inr (.inr (.inr (.inr f)))) => .inl (cT t, n, .inr (.inr (.inr (.inr (fun j => (f j).map (fun r => b0 + r))))))
  | .inr (ci, fs) => .inr (ci, fs.map (am_cv b0 oa))
def am_cW (cT : Nat → ClassId) (b0 : Nat) (oa : UInt32 → Nat) (w : am_W) : va_W := (List.range w.1).map (fun i => (b0 + i, am_cE cT b0 oa (w.2.2 i)))
theorem am_cW_get {cT : Nat → ClassId} {b0 : Nat} {oa : UInt32 → Nat} {w : am_W} {i : Nat} (h : i < w.1) : (am_cW cT b0 oa w)[i]? = some (b0 + i, am_cE cT b0 oa (am_rd w i)) := by
  unfold am_cW am_rd
  rw [List.getElem?_map, List.getElem?_range h]
  rfl
theorem am_cW_wr {cT : Nat → ClassId} {b0 : Nat} {oa : UInt32 → Nat} {w : am_W} {r : Nat} (h : r < w.1) (c : am_C) : (am_cW cT b0 oa w).set r (b0 + r, am_cE cT b0 oa c) = am_cW cT b0 oa (am_wr w r c) := by
  apply List.ext_getElem?
  intro i
  by_cases hi : i < w.1
  · by_cases hr : r = i
    · subst hr
      rw [List.getElem?_set_self (by unfold am_cW; simpa using h), am_cW_get (w := am_wr w r c) hi]
      simp [am_rd, am_wr]
    · rw [List.getElem?_set_ne hr, am_cW_get hi, am_cW_get (w := am_wr w r c) hi]
      simp [am_rd, am_wr, Ne.symm hr]
  · rw [List.getElem?_eq_none (by unfold am_cW; simp; omega), List.getElem?_eq_none (by unfold am_cW am_wr; simp; omega)]
theorem am_cW_al {cT : Nat → ClassId} {b0 : Nat} {oa : UInt32 → Nat} {w : am_W} (n : Nat) (c : am_C) : am_cW cT b0 oa w ++ [(b0 + w.1, am_cE cT b0 oa c)] = am_cW cT b0 oa (am_al w n c) := by
  have hl : (am_cW cT b0 oa w).length = w.1 := by unfold am_cW; simp
  have h1 : (am_al w n c).1 = w.1 + 1 := rfl
  apply List.ext_getElem?
  intro i
  by_cases hi : i < w.1
  · rw [List.getElem?_append_left (by omega), am_cW_get hi, am_cW_get (w := am_al w n c) (by omega)]
    have : i ≠ w.1 := by omega
    simp [am_rd, am_al, this]
  · by_cases he : i = w.1
    · subst he
      rw [List.getElem?_append_right (by omega), hl, Nat.sub_self, am_cW_get (w := am_al w n c) (by omega)]
      simp [am_rd, am_al]
    · rw [List.getElem?_eq_none (by simp; omega), List.getElem?_eq_none (by unfold am_cW; simp; omega)]
/-- locals -/
def am_ok (L : List Value) (i : Nat) (v : Value) : Bool := match v with
  | .retAddr _ => false
  | v => v.category == 1 || (match L[i + 1]? with
    | some (.retAddr _) => true
    | _ => false)
def am_lo (b0 : Nat) (oa : UInt32 → Nat) (L : List Value) : List (Nat × Value) := (List.range L.length).filterMap (fun i => match L[i]? with
  | some v => if am_ok L i v then some (i, am_cv b0 oa v) else none
  | none => none)
theorem am_lo_mem {b0 : Nat} {oa : UInt32 → Nat} {L : List Value} {q : Nat × Value} : q ∈ am_lo b0 oa L ↔ ∃ v, L[q.1]? = some v ∧ am_ok L q.1 v = true ∧ q.2 = am_cv b0 oa v := by
  unfold am_lo
  rw [List.mem_filterMap]
  constructor
  · rintro ⟨i, hi, h⟩
    cases hv : L[i]? with
    | none => rw [hv] at h; cases h
    | some v =>
      rw [hv] at h
      by_cases ho : am_ok L i v = true
      · simp only [ho, if_true] at h
        cases h
        exact ⟨v, hv, ho, rfl⟩
      · simp only [ho] at h
        cases h
  · rintro ⟨v, h1, h2, h3⟩
    refine ⟨q.1, List.mem_range.mpr (List.getElem?_eq_some_iff.mp h1).1, ?_⟩
    rw [h1]
    simp only [h2, if_true]
    rw [← h3]
theorem am_cv_cat (b0 : Nat) (oa : UInt32 → Nat) (v : Value) : (am_cv b0 oa v).category = v.category := by cases v <;> rfl
theorem am_has_mono {ls : Array Slot} {n : Nat} {l l' : List (Nat × Value)} (h : lv_has ls n l) (hs : ∀ q ∈ l', q ∈ l) : lv_has ls n l' := ⟨h.1, h.2.1, fun q hq => h.2.2 q (hs q hq)⟩
theorem am_lo_at {b0 : Nat} {oa : UInt32 → Nat} {L : List Value} {ls : Array Slot} {n i : Nat} {v : Value} (h : lv_has ls n (am_lo b0 oa L)) (hv : L[i]? = some v) (ho : am_ok L i v = true) : ls[i]? = some (.val (am_cv b0 oa v)) := h.2.2 (i, am_cv b0 oa v) (am_lo_mem.mpr ⟨v, hv, ho, rfl⟩)
theorem am_ok_iff {L : List Value} {i : Nat} {v : Value} : am_ok L i v = true ↔ (∀ a, v ≠ .retAddr a) ∧ (v.category = 1 ∨ ∃ a, L[i + 1]? = some (.retAddr a)) := by
  have key : ∀ o : Option Value, (match o with
    | some (.retAddr _) => true
    | _ => false) = true ↔ ∃ a, o = some (.retAddr a) := by
    intro o
    cases o with
    | none => simp
    | some u => cases u <;> simp
  cases v <;> simp [am_ok, Value.category] <;> exact key _
theorem am_cat12 (v : Value) : v.category = 1 ∨ v.category = 2 := by cases v <;> simp [Value.category]
theorem am_lo_set1 {b0 : Nat} {oa : UInt32 → Nat} {L : List Value} {i : Nat} {v : Value} (hi : i < L.length) (hv : ∀ a, v ≠ .retAddr a) : ∀ q ∈ am_lo b0 oa (L.set i v), q ∈ (i, am_cv b0 oa v) :: (am_lo b0 oa L).filter (fun q => !(q.1 == i) && !(q.1 + 1 == i && q.2.category == 2)) := by
  intro q hq
  obtain ⟨u, h1, h2, h3⟩ := am_lo_mem.mp hq
  by_cases he : i = q.1
  · subst he
    rw [List.getElem?_set_self hi] at h1
    cases h1
    rw [← h3]
    exact List.mem_cons_self
  · rw [List.getElem?_set_ne he] at h1
    have e1 : (q.1 == i) = false := by simp; exact fun h => he h.symm
    obtain ⟨hu, hc⟩ := am_ok_iff.mp h2
    by_cases hz : i = q.1 + 1
    · have hc1 : u.category = 1 := by
        rcases hc with hc | ⟨a, ha⟩
        · exact hc
        · rw [← hz, List.getElem?_set_self hi] at ha
          exact absurd (Option.some.inj ha) (hv a)
      refine List.mem_cons_of_mem _ (List.mem_filter.mpr ⟨am_lo_mem.mpr ⟨u, h1, am_ok_iff.mpr ⟨hu, Or.inl hc1⟩, h3⟩, ?_⟩)
      rw [e1, h3, am_cv_cat, hc1]
      simp
    · have e2 : (q.1 + 1 == i) = false := by simp; exact fun h => hz h.symm
      refine List.mem_cons_of_mem _ (List.mem_filter.mpr ⟨am_lo_mem.mpr ⟨u, h1, am_ok_iff.mpr ⟨hu, ?_⟩, h3⟩, ?_⟩)
      · rw [List.getElem?_set_ne hz] at hc
        exact hc
      · rw [e1, e2]
        rfl
theorem am_lo_set2 {b0 : Nat} {oa : UInt32 → Nat} {L : List Value} {i : Nat} {x : Int64} (hi : i + 1 < L.length) : ∀ q ∈ am_lo b0 oa ((L.set i (.long x)).set (i + 1) (.retAddr 0)), q ∈ (i, Value.long x) :: (am_lo b0 oa L).filter (fun q => !(q.1 == i) && (!(q.1 == i + 1) && !(q.1 + 1 == i && q.2.category == 2))) := by
  intro q hq
  obtain ⟨u, h1, h2, h3⟩ := am_lo_mem.mp hq
  obtain ⟨hu, hc⟩ := am_ok_iff.mp h2
  by_cases he : i + 1 = q.1
  · rw [← he] at h1
    rw [List.getElem?_set_self (by simpa using hi)] at h1
    exact absurd (Option.some.inj h1).symm (hu 0)
  · rw [List.getElem?_set_ne he] at h1
    by_cases hf : i = q.1
    · subst hf
      rw [List.getElem?_set_self (by omega)] at h1
      cases h1
      have : q = (q.1, Value.long x) := by rw [show Value.long x = q.2 from h3.symm]
      rw [← this]
      exact List.mem_cons_self
    · rw [List.getElem?_set_ne hf] at h1
      have e1 : (q.1 == i) = false := by simp; exact fun h => hf h.symm
      have e2 : (q.1 == i + 1) = false := by simp; exact fun h => he h.symm
      rw [List.getElem?_set_ne (by omega)] at hc
      by_cases hz : i = q.1 + 1
      · have hc1 : u.category = 1 := by
          rcases hc with hc | ⟨a, ha⟩
          · exact hc
          · rw [← hz, List.getElem?_set_self (by omega)] at ha
            cases ha
        refine List.mem_cons_of_mem _ (List.mem_filter.mpr ⟨am_lo_mem.mpr ⟨u, h1, am_ok_iff.mpr ⟨hu, Or.inl hc1⟩, h3⟩, ?_⟩)
        rw [e1, e2, h3, am_cv_cat, hc1]
        simp
      · have e3 : (q.1 + 1 == i) = false := by simp; exact fun h => hz h.symm
        refine List.mem_cons_of_mem _ (List.mem_filter.mpr ⟨am_lo_mem.mpr ⟨u, h1, am_ok_iff.mpr ⟨hu, ?_⟩, h3⟩, ?_⟩)
        · rw [List.getElem?_set_ne hz] at hc
          exact hc
        · rw [e1, e2, e3]
          rfl
/-- what surrounds a method: tables, statics -/
def am_tys (cT : Nat → ClassId) : List (ClassId × FieldType) := [(cT 0, .int), (cT 1, .long), (cT 2, .char), (cT 3, .object "SoupCourt$Shelf"), (cT 4, .object "SoupCourt$Pot")]
def am_A (b0 : Nat) : Nat → Prop := fun q => b0 ≤ q
def am_E (D : va_G) (cT : Nat → ClassId) (b0 : Nat) (oa : UInt32 → Nat) (X : Nat × (Nat → Int32)) (U : State) (H : Heap) : Prop := va_K D vwCl (am_tys cT) U ∧ (∀ w ∈ am_nw, va_Nw w U) ∧ (va_AO "SoupCourt$Shelf" U ∧ va_AO "SoupCourt$Pot" U) ∧ (∀ k : UInt32, k ≤ 5 → va_T .int (oa k) (am_out X k).1 (fun j => .int ((am_out X k).2 j)) (am_A b0) U H) ∧ (∀ k : UInt32, 1 ≤ k → k ≤ 5 → va_Z (am_sN k).1 (am_sN k).2 "[I" (.ref (oa k)) (am_A b0) U H)
theorem am_nw_warm {s U : State} (hW : s.WarmedH U.vm) {w : Cond} (hw : w ∈ am_nw) (h : va_Nw w s) : va_Nw w U := by
  have hn := (List.mem_filter.mp hw).2
  cases w <;> simp only [am_isN] at hn <;> first | exact va_Nw.warmF hW h | exact va_Nw.warmM hW h | cases hn
theorem am_E_moved {D : va_G} {cT : Nat → ClassId} {b0 : Nat} {oa : UInt32 → Nat} {X : Nat × (Nat → Int32)} {s U : State} {H : Heap} (hW : s.WarmedH U.vm) (h : am_E D cT b0 oa X s H) : am_E D cT b0 oa X U H :=
  ⟨va_K.moved hW.alike h.1, fun w hw => am_nw_warm hW hw (h.2.1 w hw), ⟨va_AO.moved hW.alike h.2.2.1.1, va_AO.moved hW.alike h.2.2.1.2⟩, fun k hk => va_T.moved hW.alike (h.2.2.2.1 k hk), fun k h1 h2 => va_Z.moved hW.alike (h.2.2.2.2 k h1 h2)⟩
theorem am_E_kept {D : va_G} {cT : Nat → ClassId} {b0 : Nat} {oa : UInt32 → Nat} {X : Nat × (Nat → Int32)} {U : State} {H H1 : Heap} (h : am_E D cT b0 oa X U H) (hq : ∀ a : Nat, a < H.size → ¬ am_A b0 a → H1[a]? = H[a]?) : am_E D cT b0 oa X U H1 :=
  ⟨h.1, h.2.1, h.2.2.1, fun k hk => va_T.kept (h.2.2.2.1 k hk) hq, fun k h1 h2 => va_Z.kept (h.2.2.2.2 k h1 h2) hq⟩
theorem am_E_blind {D : va_G} {cT : Nat → ClassId} {b0 : Nat} {oa : UInt32 → Nat} {X : Nat × (Nat → Int32)} {U : State} {H : Heap} {g : JFrame} {mk : MethodId} {a : Array Value} (h : am_E D cT b0 oa X U H) : am_E D cT b0 oa X (U.calling g mk a) H :=
  ⟨va_K.moved (u := U) (U := U.calling g mk a) (Vm.Alike.refl U.vm) h.1, fun w hw => va_Nw.same (u := U) (U := U.calling g mk a) (by
    have hn := (List.mem_filter.mp hw).2
    cases w <;> simp only [am_isN] at hn <;> first | rfl | cases hn) rfl (h.2.1 w hw), ⟨va_AO.moved (u := U) (U := U.calling g mk a) (Vm.Alike.refl U.vm) h.2.2.1.1, va_AO.moved (u := U) (U := U.calling g mk a) (Vm.Alike.refl U.vm) h.2.2.1.2⟩, fun k hk => va_T.moved (u := U) (U := U.calling g mk a) (Vm.Alike.refl U.vm) (h.2.2.2.1 k hk), fun k h1 h2 => va_Z.moved (u := U) (U := U.calling g mk a) (Vm.Alike.refl U.vm) (h.2.2.2.2 k h1 h2)⟩
/-- the heap holds a world -/
def am_H (D : va_G) (cT : Nat → ClassId) (b0 : Nat) (oa : UInt32 → Nat) (w : am_W) (H : Heap) : Prop := va_P D vwCl (am_cW cT b0 oa w) H ∧ ∀ i, w.1 ≤ i → am_rd w i = .inr (1000, [])
theorem am_D {cT : Nat → ClassId} {b0 : Nat} {oa : UInt32 → Nat} {w : am_W} : va_D (am_A b0) (am_cW cT b0 oa w) := by
  have key : ∀ (i : Nat) (p : Nat × va_E), (am_cW cT b0 oa w)[i]? = some p → p.1 = b0 + i := by
    intro i p h
    have hl : i < w.1 := by
      have := (List.getElem?_eq_some_iff.mp h).1
      unfold am_cW at this
      simpa using this
    rw [am_cW_get hl] at h
    cases h
    rfl
  refine ⟨fun i j p q h1 h2 he => ?_, fun k q h => ?_⟩
  · have := key i p h1
    have := key j q h2
    omega
  · show b0 ≤ q.1
    rw [key k q h]
    omega

/-! SOUND, 8: returns, calls -/
def am_Pc (D : va_G) (cT : Nat → ClassId) (b0 : Nat) (oa : UInt32 → Nat) (X : Nat × (Nat → Int32)) (as : List Value) (w : am_W) : Array Value → State → Prop := fun v U => v = (as.map (am_cv b0 oa)).toArray ∧ am_H D cT b0 oa w U.heap ∧ U.heap.size = b0 + w.1 ∧ am_E D cT b0 oa X U U.heap
def am_Qc (D : va_G) (cT : Nat → ClassId) (b0 : Nat) (oa : UInt32 → Nat) (r : Option Value) (w' : am_W) : Array Value → State → Outcome → State → Prop := fun _ st o t => o = .returned (r.map (am_cv b0 oa)) ∧ am_H D cT b0 oa w' t.heap ∧ va_F (am_A b0) st t
def am_Met (l : Launch) (D : va_G) (cT : Nat → ClassId) (b0 : Nat) (oa : UInt32 → Nat) (X : Nat × (Nat → Int32)) (d : Nat) (M : am_M) (as : List Value) (w : am_W) (r : Option Value) (w' : am_W) : Prop :=
  Met l M.2.1 (am_cw M :: am_gw) { frames := d, cells := w'.1 - w.1, slots := w'.2.1 - w.2.1, locals := 300 * d } (am_Pc D cT b0 oa X as w) (am_Qc D cT b0 oa r w') (w'.1 - w.1) (w'.2.1 - w.2.1) (am_A b0)
theorem am_pop_spec : ∀ {n : Nat} {S acc as S' : List Value}, am_pop n S acc = some (as, S') → ∃ bs, as = bs ++ acc ∧ bs.length = n ∧ S = bs.reverse ++ S'
  | 0, S, acc, as, S', h => by
    simp only [am_pop] at h
    cases h
    exact ⟨[], rfl, rfl, rfl⟩
  | n + 1, [], acc, as, S', h => by simp [am_pop] at h
  | n + 1, v :: S, acc, as, S', h => by
    simp only [am_pop] at h
    obtain ⟨bs, h1, h2, h3⟩ := am_pop_spec h
    exact ⟨bs ++ [v], by rw [h1, List.append_assoc]; rfl, by simp [h2], by rw [h3]; simp⟩
theorem am_pop0 {n : Nat} {S as S' : List Value} (h : am_pop n S [] = some (as, S')) : as.length = n ∧ S = as.reverse ++ S' := by
  obtain ⟨bs, h1, h2, h3⟩ := am_pop_spec h
  rw [List.append_nil] at h1
  subst h1
  exact ⟨h2, h3⟩
theorem am_maxL : am_Ms.all (fun M => decide (M.2.2.2.1 ≤ 200)) = true := by decide +kernel
theorem am_maxL_le {M : am_M} (h : M ∈ am_Ms) : M.2.2.2.1 ≤ 200 := by
  have := List.all_eq_true.mp am_maxL M h
  simpa using this
theorem am_mt_mem {i : Nat} (h : i < am_Ms.length) : am_mt i ∈ am_Ms := by
  unfold am_mt
  rw [List.getD_eq_getElem?_getD, List.getElem?_eq_getElem h]
  exact List.getElem_mem h
theorem am_goodW {M : am_M} (h : M ∈ am_Ms) : GoodIn am_gw (am_cw M :: am_gw) := by
  have hg : ∀ w ∈ am_gw, w ∈ am_gw ∧ ((w.onTables && w.keeps) = true ∨ ∃ ty, w = .arrayClass ty) := fun w hw => ⟨hw, good_of_word (List.mem_filter.mp hw).2⟩
  intro w hw
  rcases List.mem_cons.mp hw with rfl | hw
  · exact hg _ (am_cw_ok M h)
  · exact hg w hw
section AMR
variable {p : Program} {l : Launch} {e : Env} {R : Room} {s : State} {m : MethodId} {args : Array Value} {below : List Frame} {meth : Method} {c : Code} {H : Heap} {locs : List Loc} {cells slots : Nat} {Q : State → Prop} {ls : Array Slot}
variable {D : va_G} {cT : Nat → ClassId} {b0 : Nat} {oa : UInt32 → Nat} {X : Nat × (Nat → Int32)} {M : am_M}
variable {pc len : Nat} {L S : List Value} {w : am_W} {pc' : Nat} {L' S' : List Value} {w' : am_W}
theorem am_blind {as : List Value} : FrameBlind (am_Pc D cT b0 oa X as w) := fun _ _ _ _ h => ⟨h.1, h.2.1, h.2.2.1, am_E_blind h.2.2.2⟩
theorem am_preU (hC : am_Cx p s m args meth c D cT b0 oa X M) (hS : am_Sm s D cT b0 oa M H locs cells ls L w) (hz : H.size = b0 + w.1) {as : List Value} : ∀ U : State, U.heap = H → s.WarmedH U.vm → am_Pc D cT b0 oa X as w (as.map (am_cv b0 oa)).toArray U := by
  intro U hU hW
  refine ⟨rfl, by rw [hU]; exact hS.1, by rw [hU]; exact hz, ?_⟩
  rw [hU]
  exact am_E_kept (am_E_moved hW hC.2.2.2.2.2.2.2.2.2) (fun a h1 h2 => hS.2.1.2.1 a h1 h2)
theorem am_goes {mc ms : Nat} {r : Option Value} {a : Array Value} {rest : List Value} {st0 : List Value} (hr : va_Run p l e R s m args below meth c H locs cells slots mc ms (F0 m pc ls st0) rest (am_Qc D cT b0 oa r w' a) (am_A b0)) (hS : va_S (am_A b0) s.heap H locs)
    (kk : ∀ (H1 : Heap) (locs1 : List Loc), am_H D cT b0 oa w' H1 → va_S (am_A b0) s.heap H1 locs1 → W p l e R s m args below meth c H1 locs1 (cells + mc) (slots + ms) Q (F0 m (pc + 3) ls ((r.map (am_cv b0 oa)).toList ++ rest))) : W p l e R s m args below meth c H locs cells slots Q (F0 m pc ls st0) := by
  intro T hT X
  obtain ⟨v, st₀, t, T', L, h0, X', hL, e1, e2, ⟨hv, hH, hz, hk⟩, st⟩ := hr T hT X
  cases hv
  rw [h0] at hz hk
  obtain ⟨t2, a1, b1⟩ := kk T'.heap (locs ++ L) (by rw [e1]; exact hH)
    ⟨Nat.le_trans hS.1 (by rw [e1]; exact hz), fun q h1 h2 => by rw [e1, hk q (Nat.lt_of_lt_of_le h1 hS.1) h2]; exact hS.2.1 q h1 h2, fun q hq => by
      rcases List.mem_append.mp hq with h | h
      · exact hS.2.2 q h
      · exact hL q h⟩ T' rfl X'
  exact ⟨t2, st t2 a1, b1⟩
theorem am_retW (hC : am_Cx p s m args meth c D cT b0 oa X M) (hS : am_Sm s D cT b0 oa M H locs cells ls L w) {r : Option Value} (ha : am_act X M pc L S w = some (.inl (r, w'))) : W p l e R s m args below meth c H locs cells slots (MQ below (am_Qc D cT b0 oa r w') args s cells slots (am_A b0)) (F0 m pc ls (S.map (am_cv b0 oa))) := by
  have hlocks := hC.2.2.2.2.2.2.1
  have hr := hC.2.2.2.2.2.1
  unfold am_act at ha
  split at ha
  · rename_i q hd
    obtain ⟨ins, len⟩ := q
    simp only at ha
    have fin : ∀ {v : Option Value}, ∀ t : State, t.heap = H → s.WarmedH t.vm → am_Qc D cT b0 oa v w args s (.returned (v.map (am_cv b0 oa))) t := fun t ht _ => ⟨rfl, by rw [ht]; exact hS.1, hS.2.1.F ht⟩
    cases ins with
    | ireturn =>
      simp only [am_ins] at ha
      split at ha
      · rename_i x
        split at ha
        · rename_i hcond
          cases ha
          obtain ⟨rfl, hcond⟩ := hcond
          rcases hcond with hi | ⟨hz, hx⟩
          · rw [hi] at hr
            exact W.iret hC.1 hC.2.1 hr (fun t ht hW => fin (v := some (.int x)) t ht hW) hS.2.1.2.2 hd
          · rw [hz] at hr
            refine W.zret hC.1 hC.2.1 hr ?_ (fun t ht hW => fin (v := some (.int x)) t ht hW) hS.2.1.2.2 hd
            rcases hx with rfl | rfl <;> rfl
        · cases ha
      · cases ha
    | lreturn =>
      simp only [am_ins] at ha
      split at ha
      · rename_i x
        split at ha
        · rename_i hcond
          cases ha
          obtain ⟨rfl, hi⟩ := hcond
          rw [hi] at hr
          exact W.lret hC.1 hC.2.1 hr (fun t ht hW => fin (v := some (.long x)) t ht hW) hS.2.1.2.2 hd
        · cases ha
      · cases ha
    | areturn =>
      simp only [am_ins] at ha
      split at ha
      · rename_i x
        split at ha
        · rename_i hcond
          cases ha
          obtain ⟨rfl, hi⟩ := hcond
          rw [hi] at hr
          exact W.aret (v := .ref (b0 + x)) hC.1 hC.2.1 hr (Or.inr ⟨_, rfl⟩) (Or.inr ⟨_, rfl⟩) (fun t ht hW => fin (v := some (.ref x)) t ht hW) hS.2.1.2.2 hd
        · cases ha
      · cases ha
    | return_ =>
      simp only [am_ins] at ha
      split at ha
      · rename_i hcond
        cases ha
        obtain ⟨rfl, hi, rfl⟩ := hcond
        rw [hi] at hr
        exact W.vret hC.1 hC.2.1 hr (fun t ht hW => fin (v := none) t ht hW) hS.2.1.2.2 hd
      · cases ha
    | _ => exact absurd (am_shape ha).2 (by simp [am_isR])
  · cases ha
end AMR

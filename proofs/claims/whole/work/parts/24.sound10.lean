/-! SOUND, 10: a whole method is as the abstract machine says -/
theorem am_lp_mono {X : Nat × (Nat → Int32)} {call : am_M → List Value → am_W → Option am_R} (hcm : ∀ M as w r w', call M as w = some (r, w') → w.1 ≤ w'.1 ∧ w.2.1 ≤ w'.2.1) : ∀ (n : Nat) {M : am_M} {pc : Nat} {L S : List Value} {w : am_W} {r : Option Value} {w' : am_W}, am_lp X call n M pc L S w = some (r, w') → w.1 ≤ w'.1 ∧ w.2.1 ≤ w'.2.1 := by
  intro n
  induction n with
  | zero => intro M pc L S w r w' h; simp [am_lp] at h
  | succ n ih =>
    intro M pc L S w r w' h
    unfold am_lp at h
    have key : ∀ {o}, am_act X M pc L S w = some o → ∃ ins, am_fine w ins o := by
      intro o ho
      unfold am_act at ho
      split at ho
      · exact ⟨_, am_shape ho⟩
      · cases ho
    split at h
    · cases h
    · rename_i r0 ha
      cases h
      obtain ⟨ins, h1⟩ := key ha
      have : w' = w := h1.1
      rw [this]
      exact ⟨Nat.le_refl _, Nat.le_refl _⟩
    · rename_i pc' L' S' w1 ha
      obtain ⟨ins, h1⟩ := key ha
      have h2 := ih h
      exact ⟨Nat.le_trans h1.1 h2.1, Nat.le_trans h1.2 h2.2⟩
    · rename_i M' as pc' L' S' w1 ha
      obtain ⟨ins, h1⟩ := key ha
      have h1 : w1 = w := h1
      split at h
      · cases h
      · rename_i r1 w2 hc
        rw [h1] at hc
        have h2 := hcm _ _ _ _ _ hc
        have h3 := ih h
        exact ⟨Nat.le_trans h2.1 h3.1, Nat.le_trans h2.2 h3.2⟩
theorem am_cl_mono {X : Nat × (Nat → Int32)} {N : Nat} : ∀ (d : Nat) (M : am_M) (as : List Value) (w : am_W) (r : Option Value) (w' : am_W), am_cl X N d M as w = some (r, w') → w.1 ≤ w'.1 ∧ w.2.1 ≤ w'.2.1 := by
  intro d
  induction d with
  | zero => intro M as w r w' h; simp [am_cl] at h
  | succ d ih =>
    intro M as w r w' h
    unfold am_cl at h
    split at h
    · exact am_lp_mono ih N h
    · cases h
set_option maxHeartbeats 4000000 in
theorem am_callL {X : Nat × (Nat → Int32)} {M : am_M} {pc : Nat} {L S : List Value} {w : am_W} {M' : am_M} {as : List Value} {pc' : Nat} {L' S' : List Value} {w1 : am_W} (ha : am_act X M pc L S w = some (.inr (.inr (M', as, pc', L', S', w1)))) : L' = L := by
  unfold am_act at ha
  split at ha
  · rename_i q hd
    obtain ⟨ins, len⟩ := q
    simp only at ha
    cases ins <;> simp only [am_ins, am_nx, am_jp, am_br, am_i2, am_l2, am_i1, am_ld, am_ll, am_la, am_si, am_sl, am_sa] at ha <;> (repeat' split at ha) <;> first | (cases ha; done) | (cases ha; rfl)
  · cases ha
section AMY
variable {p : Program} {l : Launch} {e : Env} {R : Room} {s : State} {m : MethodId} {args : Array Value} {below : List Frame} {meth : Method} {c : Code} {Q : State → Prop}
variable {D : va_G} {cT : Nat → ClassId} {b0 : Nat} {oa : UInt32 → Nat} {X : Nat × (Nat → Int32)} {M : am_M}
set_option maxHeartbeats 4000000 in
theorem am_simW {N d : Nat} (hC : am_Cx p s m args meth c D cT b0 oa X M) (hcall : ∀ M as w r w', M ∈ am_Ms → am_plain M = true → am_cl X N d M as w = some (r, w') → am_Met l D cT b0 oa X d M as w r w') (hfr : d + 1 ≤ R.frames) (hlo : 300 * (d + 1) ≤ R.locals) :
    ∀ (n : Nat) {pc : Nat} {L S : List Value} {w : am_W} {r : Option Value} {w' : am_W}, am_lp X (am_cl X N d) n M pc L S w = some (r, w') → ∀ {H : Heap} {locs : List Loc} {cells slots : Nat} {ls : Array Slot}, am_Sm s D cT b0 oa M H locs cells ls L w → (∀ n1, n1 + w.1 = cells + w'.1 → n1 ≤ R.cells) → (∀ n2, n2 + w.2.1 = slots + w'.2.1 → n2 ≤ R.slots) →
      (∀ (H' : Heap) (locs' : List Loc) (ls' : Array Slot) (n1 n2 pc' : Nat) (L' S' : List Value), n1 + w.1 = cells + w'.1 → n2 + w.2.1 = slots + w'.2.1 → am_Sm s D cT b0 oa M H' locs' n1 ls' L' w' → am_act X M pc' L' S' w' = some (.inl (r, w')) → W p l e R s m args below meth c H' locs' n1 n2 Q (F0 m pc' ls' (S'.map (am_cv b0 oa)))) →
      W p l e R s m args below meth c H locs cells slots Q (F0 m pc ls (S.map (am_cv b0 oa))) := by
  intro n
  induction n with
  | zero => intro pc L S w r w' h; simp [am_lp] at h
  | succ n ih =>
    intro pc L S w r w' h H locs cells slots ls hS hc hs hQ
    have hmono := am_lp_mono (am_cl_mono d) (n + 1) h
    unfold am_lp at h
    split at h
    · cases h
    · rename_i r0 ha
      cases h
      have hw : w' = w := by
        unfold am_act at ha
        split at ha
        · exact (am_shape ha).1
        · cases ha
      subst hw
      exact hQ H locs ls cells slots pc L S rfl rfl hS ha
    · rename_i pc' L' S' w1 ha
      have hm1 : w.1 ≤ w1.1 ∧ w.2.1 ≤ w1.2.1 := by
        unfold am_act at ha
        split at ha
        · exact am_shape ha
        · cases ha
      have hm2 := am_lp_mono (am_cl_mono d) n h
      refine am_nextW hC hS ha ⟨fun n1 hn => ?_, fun n2 hn => ?_, by omega, by omega⟩ ?_
      · have := hc (cells + w'.1 - w.1) (by omega)
        omega
      · have := hs (slots + w'.2.1 - w.2.1) (by omega)
        omega
      · intro H' locs' ls' n1 n2 h1 h2 hS'
        refine ih h hS' (fun k hk => hc k (by omega)) (fun k hk => hs k (by omega)) ?_
        intro H2 locs2 ls2 k1 k2 pc2 L2 S2 e1 e2 hS2 ha2
        exact hQ H2 locs2 ls2 k1 k2 pc2 L2 S2 (by omega) (by omega) hS2 ha2
    · rename_i M' as pc' L' S' w1 ha
      split at h
      · cases h
      · rename_i r1 w2 hcl
        have hw : w1 = w := by
          unfold am_act at ha
          split at ha
          · exact am_shape ha
          · cases ha
        subst hw
        have hm1 := am_cl_mono d _ _ _ _ _ hcl
        have hm2 := am_lp_mono (am_cl_mono d) n h
        have hL : L' = L := by
          have hcw := am_callL ha
          exact hcw
        subst hL
        have key := am_callW (p := p) (l := l) (e := e) (R := R) (below := below) (Q := Q) (slots := slots) hC hS ha hfr hlo (by have := hc (cells + w'.1 - w1.1) (by omega); omega) (by have := hs (slots + w'.2.1 - w1.2.1) (by omega); omega) (fun hm hp => hcall M' as w1 r1 w2 hm hp hcl) ?_
        · exact key.2.2.2
        · intro H1 locs1 hH1 hS1
          have hS' : am_Sm s D cT b0 oa M H1 locs1 (cells + (w2.1 - w1.1)) ls L' w2 := ⟨hH1, hS1, hS.2.2.1, hS.2.2.2.1, by have := hS.2.2.2.2; omega⟩
          refine ih h hS' (fun k hk => hc k (by omega)) (fun k hk => hs k (by omega)) ?_
          intro H2 locs2 ls2 k1 k2 pc2 L2 S2 e1 e2 hS2 ha2
          exact hQ H2 locs2 ls2 k1 k2 pc2 L2 S2 (by omega) (by omega) hS2 ha2
end AMY
theorem am_entry (b0 : Nat) (oa : UInt32 → Nat) : ∀ (as : List Value) (i0 m k : Nat) (v : Value), (am_sL as ++ List.replicate m (Value.retAddr 0))[k]? = some v → (∀ a, v ≠ .retAddr a) → (i0 + k, am_cv b0 oa v) ∈ lv_args i0 (as.map (am_cv b0 oa)) := by
  intro as
  induction as with
  | nil =>
    intro i0 m k v h hv
    simp only [am_sL, List.nil_append] at h
    exact absurd (List.eq_of_mem_replicate (List.mem_of_getElem? h)) (hv 0)
  | cons u as ih =>
    intro i0 m k v h hv
    simp only [am_sL] at h
    simp only [List.map_cons, lv_args, am_cv_cat]
    by_cases hc : u.category = 2
    · simp only [hc, if_true] at h ⊢
      cases k with
      | zero =>
        simp only [List.cons_append, List.getElem?_cons_zero] at h
        cases h
        exact List.mem_cons_self
      | succ k =>
        cases k with
        | zero =>
          simp only [List.cons_append, List.getElem?_cons_succ, List.getElem?_cons_zero] at h
          cases h
          exact absurd rfl (hv 0)
        | succ k =>
          simp only [List.cons_append, List.getElem?_cons_succ] at h
          refine List.mem_cons_of_mem _ ?_
          have := ih (i0 + 2) m k v h hv
          rw [show i0 + (k + 1 + 1) = i0 + 2 + k by omega]
          exact this
    · simp only [hc, if_false] at h ⊢
      cases k with
      | zero =>
        simp only [List.cons_append, List.getElem?_cons_zero] at h
        cases h
        exact List.mem_cons_self
      | succ k =>
        simp only [List.cons_append, List.getElem?_cons_succ] at h
        refine List.mem_cons_of_mem _ ?_
        have := ih (i0 + 1) m k v h hv
        rw [show i0 + (k + 1) = i0 + 1 + k by omega]
        exact this
theorem am_sl_len (b0 : Nat) (oa : UInt32 → Nat) : ∀ as : List Value, (lg_sl (as.map (am_cv b0 oa))).length = (am_sL as).length := by
  intro as
  induction as with
  | nil => rfl
  | cons u as ih =>
    simp only [lg_sl, List.map_cons, List.flatMap_cons, am_sL, am_cv_cat] at ih ⊢
    by_cases hc : u.category = 2
    · simp only [hc, if_true, List.length_append, List.length_cons, List.length_nil]
      rw [ih]
      omega
    · simp only [hc, if_false, List.length_append, List.length_cons, List.length_nil]
      rw [ih]
      omega
/-- the locals at a method's entry -/
theorem am_entryL {b0 : Nat} {oa : UInt32 → Nat} {as : List Value} {n : Nat} (h : (am_sL as).length ≤ n) : lv_has ((lg_sl (as.map (am_cv b0 oa)) ++ List.replicate (n - (lg_sl (as.map (am_cv b0 oa))).length) Slot.unset).toArray) n (am_lo b0 oa (am_L0 n as)) ∧ (am_L0 n as).length = n := by
  refine ⟨am_has_mono (lv_entry (as.map (am_cv b0 oa)) (by rw [am_sl_len]; exact h)) (fun q hq => ?_), ?_⟩
  · obtain ⟨v, h1, h2, h3⟩ := am_lo_mem.mp hq
    have := am_entry b0 oa as 0 (n - (am_sL as).length) q.1 v h1 (am_ok_iff.mp h2).1
    rw [Nat.zero_add, ← h3] at this
    exact this
  · unfold am_L0
    rw [List.length_append, List.length_replicate]
    omega
set_option maxHeartbeats 4000000 in
theorem am_clMet {l : Launch} {D : va_G} {cT : Nat → ClassId} {b0 : Nat} {oa : UInt32 → Nat} {X : Nat × (Nat → Int32)} {N : Nat} : ∀ (d : Nat) (M : am_M) (as : List Value) (w : am_W) (r : Option Value) (w' : am_W), M ∈ am_Ms → am_plain M = true → am_cl X N d M as w = some (r, w') → am_Met l D cT b0 oa X d M as w r w' := by
  intro d
  induction d with
  | zero => intro M as w r w' _ _ h; simp [am_cl] at h
  | succ d ih =>
    intro M as w r w' hM hpl h
    have hmono := am_cl_mono (d + 1) _ _ _ _ _ h
    unfold am_cl at h
    split at h
    · rename_i hlen
      have hpl' := hpl
      unfold am_plain at hpl'
      simp only [Bool.and_eq_true, decide_eq_true_eq] at hpl'
      unfold am_Met
      refine Met.ofW (cc := M.2.2.1) (maxL := M.2.2.2.1) (ret := M.2.2.2.2) hpl'.1.2 rfl ?_
      intro p e s m args below meth c s₁ B hml hv
      obtain ⟨rfl, hH, hsz, hE⟩ := hv
      have hts := atoms_spec (ws := am_cw M :: am_gw) B.pre
      have hC : am_Cx p s m (as.map (am_cv b0 oa)).toArray meth c D cT b0 oa X M := ⟨B.exec, B.bytes, hml, by rw [← hpl'.2]; exact findClass_of_methodNamed B.named, fun w hw => hts w (List.mem_cons_of_mem _ hw), B.returns, B.notSynchronized, fun h => (name_of_methodNamed B.named B.method).1.trans h, by omega, hE⟩
      obtain ⟨hl, hL⟩ := am_entryL (b0 := b0) (oa := oa) hlen
      rw [lg_entry_eq]
      have hS : am_Sm s D cT b0 oa M s.heap [] 0 ((lg_sl (as.map (am_cv b0 oa)) ++ List.replicate (M.2.2.2.1 - (lg_sl (as.map (am_cv b0 oa))).length) Slot.unset).toArray) (am_L0 M.2.2.2.1 as) w := ⟨hH, va_S.rf, hl, hL, by omega⟩
      refine am_simW hC ih (Nat.le_refl _) (Nat.le_refl _) N h hS (fun n1 hn => ?_) (fun n2 hn => ?_) ?_
      · show n1 ≤ w'.1 - w.1
        omega
      · show n2 ≤ w'.2.1 - w.2.1
        omega
      · intro H' locs' ls' n1 n2 pc' L' S' e1 e2 hS' ha'
        have e1' : n1 = w'.1 - w.1 := by omega
        have e2' : n2 = w'.2.1 - w.2.1 := by omega
        subst e1'
        subst e2'
        exact am_retW hC hS' ha'
    · cases h

/-! THE MACHINE WITHOUT FUEL: limits, and an equation a step -/
theorem am_lp_up {X : Nat × (Nat → Int32)} {call call' : am_M → List Value → am_W → Option am_R} (hc : ∀ M as w r, call M as w = some r → call' M as w = some r) : ∀ (n n' : Nat), n ≤ n' → ∀ {M : am_M} {pc : Nat} {L S : List Value} {w : am_W} {r : am_R}, am_lp X call n M pc L S w = some r → am_lp X call' n' M pc L S w = some r := by
  intro n
  induction n with
  | zero => intro n' _ M pc L S w r h; simp [am_lp] at h
  | succ n ih =>
    intro n' hn M pc L S w r h
    obtain ⟨k, rfl⟩ : ∃ k, n' = k + 1 := ⟨n' - 1, by omega⟩
    unfold am_lp at h ⊢
    split at h
    · cases h
    · exact h
    · exact ih k (by omega) h
    · split at h
      · cases h
      · rename_i r1 w2 hcl
        rw [hc _ _ _ _ hcl]
        exact ih k (by omega) h
theorem am_cl_up {X : Nat × (Nat → Int32)} {n n' : Nat} (hn : n ≤ n') : ∀ (d : Nat) (M : am_M) (as : List Value) (w : am_W) (r : am_R), am_cl X n d M as w = some r → am_cl X n' d M as w = some r := by
  intro d
  induction d with
  | zero => intro M as w r h; simp [am_cl] at h
  | succ d ih =>
    intro M as w r h
    unfold am_cl at h ⊢
    split at h
    · rename_i hl
      rw [if_pos hl]
      exact am_lp_up ih n n' hn h
    · cases h
/-- the limit of a row of answers -/
noncomputable def am_lim {α : Type} (f : Nat → Option α) : Option α := @dite (Option α) (∃ n, (f n).isSome = true) (Classical.propDecidable _) (fun h => f (Classical.choose h)) (fun _ => none)
theorem am_lim_iff {α : Type} {f : Nat → Option α} (hf : ∀ n n' a, n ≤ n' → f n = some a → f n' = some a) {a : α} : am_lim f = some a ↔ ∃ n, f n = some a := by
  unfold am_lim
  by_cases h : ∃ n, (f n).isSome = true
  · rw [dif_pos h]
    constructor
    · exact fun q => ⟨_, q⟩
    · rintro ⟨n, hn⟩
      have hs := Classical.choose_spec h
      obtain ⟨b, hb⟩ := Option.isSome_iff_exists.mp hs
      have e1 := hf _ (max n (Classical.choose h)) b (Nat.le_max_right _ _) hb
      have e2 := hf _ (max n (Classical.choose h)) a (Nat.le_max_left _ _) hn
      rw [hb]
      rw [e1] at e2
      exact e2
  · rw [dif_neg h]
    constructor
    · intro q; cases q
    · rintro ⟨n, hn⟩
      exact absurd ⟨n, by rw [hn]; rfl⟩ h
noncomputable def am_EV (X : Nat × (Nat → Int32)) (d : Nat) (M : am_M) (pc : Nat) (L S : List Value) (w : am_W) : Option am_R := am_lim (fun N => am_lp X (am_cl X N d) N M pc L S w)
noncomputable def am_CL (X : Nat × (Nat → Int32)) (d : Nat) (M : am_M) (as : List Value) (w : am_W) : Option am_R := am_lim (fun N => am_cl X N d M as w)
theorem am_EV_iff {X : Nat × (Nat → Int32)} {d : Nat} {M : am_M} {pc : Nat} {L S : List Value} {w : am_W} {r : am_R} : am_EV X d M pc L S w = some r ↔ ∃ N, am_lp X (am_cl X N d) N M pc L S w = some r :=
  am_lim_iff fun n n' a hn h => am_lp_up (am_cl_up hn d) n n' hn h
theorem am_CL_iff {X : Nat × (Nat → Int32)} {d : Nat} {M : am_M} {as : List Value} {w : am_W} {r : am_R} : am_CL X d M as w = some r ↔ ∃ N, am_cl X N d M as w = some r :=
  am_lim_iff fun n n' a hn h => am_cl_up hn d _ _ _ _ h
/-- behind a call -/
noncomputable def am_rt (X : Nat × (Nat → Int32)) (d : Nat) (o : Option am_R) (M : am_M) (pc : Nat) (L S : List Value) : Option am_R := match o with
  | none => none
  | some (r, w2) => am_EV X d M pc L (r.toList ++ S) w2
theorem am_opt {α : Type} {a b : Option α} (h : ∀ r, a = some r ↔ b = some r) : a = b := by
  cases ha : a with
  | some r => exact ((h r).mp ha).symm
  | none =>
    cases hb : b with
    | none => rfl
    | some r => rw [(h r).mpr hb] at ha; cases ha
theorem am_EV_ret {X : Nat × (Nat → Int32)} {d : Nat} {M : am_M} {pc : Nat} {L S : List Value} {w : am_W} {r : am_R} (ha : am_act X M pc L S w = some (.inl r)) : am_EV X d M pc L S w = some r := am_EV_iff.mpr ⟨1, by unfold am_lp; rw [ha]⟩
theorem am_EV_none {X : Nat × (Nat → Int32)} {d : Nat} {M : am_M} {pc : Nat} {L S : List Value} {w : am_W} (ha : am_act X M pc L S w = none) : am_EV X d M pc L S w = none := am_opt fun r => by
  constructor
  · intro h
    obtain ⟨N, h⟩ := am_EV_iff.mp h
    cases N with
    | zero => simp [am_lp] at h
    | succ n =>
      unfold am_lp at h
      rw [ha] at h
      cases h
  · intro h; cases h
theorem am_EV_next {X : Nat × (Nat → Int32)} {d : Nat} {M : am_M} {pc : Nat} {L S : List Value} {w : am_W} {pc' : Nat} {L' S' : List Value} {w' : am_W} (ha : am_act X M pc L S w = some (.inr (.inl (pc', L', S', w')))) : am_EV X d M pc L S w = am_EV X d M pc' L' S' w' := am_opt fun r => by
  rw [am_EV_iff, am_EV_iff]
  constructor
  · rintro ⟨N, h⟩
    cases N with
    | zero => simp [am_lp] at h
    | succ n =>
      unfold am_lp at h
      rw [ha] at h
      exact ⟨n + 1, am_lp_up (fun _ _ _ _ h => h) n (n + 1) (Nat.le_succ n) h⟩
  · rintro ⟨N, h⟩
    refine ⟨N + 1, ?_⟩
    unfold am_lp
    rw [ha]
    exact am_lp_up (am_cl_up (Nat.le_succ N) d) N N (Nat.le_refl _) h
theorem am_EV_call {X : Nat × (Nat → Int32)} {d : Nat} {M : am_M} {pc : Nat} {L S : List Value} {w : am_W} {M' : am_M} {as : List Value} {pc' : Nat} {L' S' : List Value} {w' : am_W} (ha : am_act X M pc L S w = some (.inr (.inr (M', as, pc', L', S', w')))) : am_EV X d M pc L S w = am_rt X d (am_CL X d M' as w') M pc' L' S' := am_opt fun r => by
  rw [am_EV_iff]
  constructor
  · rintro ⟨N, h⟩
    cases N with
    | zero => simp [am_lp] at h
    | succ n =>
      unfold am_lp at h
      rw [ha] at h
      simp only at h
      split at h
      · cases h
      · rename_i r1 w2 hc
        rw [am_CL_iff.mpr ⟨n + 1, hc⟩]
        exact am_EV_iff.mpr ⟨n + 1, am_lp_up (fun _ _ _ _ h => h) n (n + 1) (Nat.le_succ n) h⟩
  · intro h
    unfold am_rt at h
    split at h
    · cases h
    · rename_i r1 w2 hc
      obtain ⟨N1, h1⟩ := am_CL_iff.mp hc
      obtain ⟨N2, h2⟩ := am_EV_iff.mp h
      refine ⟨max N1 N2 + 1, ?_⟩
      unfold am_lp
      rw [ha]
      simp only
      rw [am_cl_up (show N1 ≤ max N1 N2 + 1 by omega) d _ _ _ _ h1]
      exact am_lp_up (am_cl_up (show N2 ≤ max N1 N2 + 1 by omega) d) N2 (max N1 N2) (by omega) h2
theorem am_CL_eq {X : Nat × (Nat → Int32)} {d : Nat} {M : am_M} {as : List Value} {w : am_W} (h : (am_sL as).length ≤ M.2.2.2.1) : am_CL X (d + 1) M as w = am_EV X d M 0 (am_L0 M.2.2.2.1 as) [] w := am_opt fun r => by
  rw [am_CL_iff, am_EV_iff]
  constructor
  · rintro ⟨N, q⟩
    unfold am_cl at q
    rw [if_pos h] at q
    exact ⟨N, q⟩
  · rintro ⟨N, q⟩
    refine ⟨N, ?_⟩
    unfold am_cl
    rw [if_pos h]
    exact q
theorem am_rt_some {X : Nat × (Nat → Int32)} {d : Nat} {v : Value} {w : am_W} {M : am_M} {pc : Nat} {L S : List Value} : am_rt X d (some (some v, w)) M pc L S = am_EV X d M pc L (v :: S) w := rfl
theorem am_rt_void {X : Nat × (Nat → Int32)} {d : Nat} {w : am_W} {M : am_M} {pc : Nat} {L S : List Value} : am_rt X d (some (none, w)) M pc L S = am_EV X d M pc L S w := rfl
theorem am_rt_none {X : Nat × (Nat → Int32)} {d : Nat} {M : am_M} {pc : Nat} {L S : List Value} : am_rt X d none M pc L S = none := rfl
theorem am_rt_ite {X : Nat × (Nat → Int32)} {d : Nat} {P : Prop} {h : Decidable P} {a b : Option am_R} {M : am_M} {pc : Nat} {L S : List Value} : am_rt X d (if P then a else b) M pc L S = if P then am_rt X d a M pc L S else am_rt X d b M pc L S := by
  by_cases q : P <;> simp [q]

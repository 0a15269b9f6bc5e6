/-! SOUND, 5: a step that isn't a call of ours, whichever -/
theorem am_arI : Cond.arrayClass .int ∈ am_gw := am_gw_at (i := 1061) (by decide +kernel) rfl
theorem am_arJ : Cond.arrayClass .long ∈ am_gw := am_gw_at (i := 2071) (by decide +kernel) rfl
theorem am_arC : Cond.arrayClass .char ∈ am_gw := am_gw_at (i := 5144) (by decide +kernel) rfl
theorem am_tM_spec {ow i : Nat} {q : Nat × Nat × Nat × Nat × Bool × List Nat} (h : am_lq ow i am_tM = some q) : i < 10000 ∧ am_chM (ow * 10000 + i, q) = true := by
  obtain ⟨hi, hm⟩ := am_lq_mem h
  exact ⟨hi, List.all_eq_true.mp am_tM_ok _ hm⟩
theorem am_catS : ∀ {S : List Value} (b0 : Nat) (oa : UInt32 → Nat), am_rs S = true → ((S.map (am_cv b0 oa)).map fun v => v.category).sum ≤ 8 := by
  have key : ∀ (S : List Value) (b0 : Nat) (oa : UInt32 → Nat), ((S.map (am_cv b0 oa)).map fun v => v.category).sum ≤ 2 * S.length ∧ (S.all (fun v => v.category == 1) = true → ((S.map (am_cv b0 oa)).map fun v => v.category).sum = S.length) := by
    intro S b0 oa
    induction S with
    | nil => simp
    | cons v S ih =>
      simp only [List.map_cons, List.sum_cons, List.length_cons, List.all_cons, Bool.and_eq_true, beq_iff_eq]
      rw [am_cv_cat]
      have := am_cat12 v
      refine ⟨by have := ih.1; omega, fun h => ?_⟩
      have := ih.2 h.2
      omega
  intro S b0 oa h
  have k := key S b0 oa
  unfold am_rs at h
  simp only [Bool.or_eq_true, Bool.and_eq_true, Nat.ble_eq] at h
  rcases h with h | h
  · have := k.1
    omega
  · have := k.2 h.1
    omega
section AMD
variable {p : Program} {l : Launch} {e : Env} {R : Room} {s : State} {m : MethodId} {args : Array Value} {below : List Frame} {meth : Method} {c : Code} {H : Heap} {locs : List Loc} {cells slots : Nat} {Q : State → Prop} {ls : Array Slot}
variable {D : va_G} {cT : Nat → ClassId} {b0 : Nat} {oa : UInt32 → Nat} {X : Nat × (Nat → Int32)} {M : am_M}
variable {pc len : Nat} {L S : List Value} {w : am_W} {pc' : Nat} {L' S' : List Value} {w' : am_W}
theorem am_objW (hC : am_Cx p s m args meth c D cT b0 oa X M) (hS : am_Sm s D cT b0 oa M H locs cells ls L w) {i : Nat} {q : Nat × Nat × Nat × Nat × Bool × List Nat} (hq : am_lq M.1 i am_tM = some q) (h3 : q.1 = 3) (hdg : decode M.2.2.1 pc = .ok (.invokespecial i, 3)) {S : List Value} {a : Nat} (hl : am_rs S = true) (hf : 1 ≤ R.frames) (hlo : 200 ≤ R.locals)
    (kk : W p l e R s m args below meth c H locs cells slots Q (F0 m (pc + 3) ls (S.map (am_cv b0 oa)))) : W p l e R s m args below meth c H locs cells slots Q (F0 m pc ls (.ref a :: S.map (am_cv b0 oa))) := by
  obtain ⟨hx, hb, hml, hown, hts, hret, hlocks, hname, hb0, hE⟩ := hC
  obtain ⟨hi, hch⟩ := am_tM_spec hq
  obtain ⟨k, M', n, ci, nest, ps⟩ := q
  simp only at h3
  subst h3
  simp only [am_chM, (am_key hi).1, (am_key hi).2] at hch
  split at hch <;> simp_all only [Prod.mk.injEq, reduceCtorEq, false_and, and_false]
  all_goals first | (exfalso; omega) | skip
  simp only [Bool.and_eq_true, decide_eq_true_eq] at hch
  have hr := lv_room (m := m) (pc := pc) (ls := ls) (rest := (Value.ref a :: S.map (am_cv b0 oa))) (am_catS b0 oa hl)
  exact W.objInit hx hb hown (hts _ (am_gw_at hch.1.1.2 rfl)) (hts _ (am_gw_at hch.1.2 rfl)) (hts _ (am_gw_at hch.2 rfl)) rfl (hS.2.2.1.1.trans hml.symm) rfl hdg hf (by omega) kk
theorem am_cpW (hC : am_Cx p s m args meth c D cT b0 oa X M) (hS : am_Sm s D cT b0 oa M H locs cells ls L w) {i : Nat} {q : Nat × Nat × Nat × Nat × Bool × List Nat} (hq : am_lq M.1 i am_tM = some q) (h3 : q.1 = 4) (hdg : decode M.2.2.1 pc = .ok (.invokestatic i, 3)) {S : List Value} {ra rb : Nat} {sp dp n : Int32} {cl : am_C} (hcp : am_cp (am_rd w ra) sp (am_rd w rb) dp n = some cl) (hl : am_rs S = true) (hf : 1 ≤ R.frames) (hlo : 200 ≤ R.locals)
    (kk : ∀ (H1 : Heap) (locs1 : List Loc), am_Sm s D cT b0 oa M H1 locs1 cells ls L (am_wr w rb cl) → W p l e R s m args below meth c H1 locs1 cells slots Q (F0 m (pc + 3) ls (S.map (am_cv b0 oa)))) : W p l e R s m args below meth c H locs cells slots Q (F0 m pc ls (.int n :: .int dp :: .ref (b0 + rb) :: .int sp :: .ref (b0 + ra) :: S.map (am_cv b0 oa))) := by
  obtain ⟨hx, hb, hml, hown, hts, hret, hlocks, hname, hb0, hE⟩ := hC
  obtain ⟨hi, hch⟩ := am_tM_spec hq
  obtain ⟨k, M', nn, ci, nest, ps⟩ := q
  simp only at h3
  subst h3
  simp only [am_chM, (am_key hi).1, (am_key hi).2] at hch
  split at hch <;> simp_all only [Prod.mk.injEq, reduceCtorEq, false_and, and_false]
  all_goals first | (exfalso; omega) | skip
  simp only [Bool.and_eq_true, decide_eq_true_eq] at hch
  have hcat := am_catS b0 oa hl
  have hw : nativeFrameWords "java/lang/System" "arraycopy" 5 ≤ 100 := by decide +kernel
  unfold am_cp at hcp
  split at hcp
  · rename_i t n0 f t' n1 g ha hbb
    split at hcp
    · rename_i hcond
      obtain ⟨rfl, rfl, h1, h2, h3, h4, h5⟩ := hcond
      cases hcp
      have hra : ra < w.1 := am_lt hS.1 ha
      have hrb : rb < w.1 := am_lt hS.1 hbb
      have ea := am_cW_get (cT := cT) (b0 := b0) (oa := oa) hra
      have eb := am_cW_get (cT := cT) (b0 := b0) (oa := oa) hrb
      rw [ha] at ea
      rw [hbb] at eb
      exact va_copyi hx hb (hml.trans hS.2.2.1.1.symm) hown (hts _ (am_gw_at hch.1.1.1.2 rfl)) (hts _ (am_gw_at hch.1.1.2 rfl)) (hts _ (am_gw_at hch.1.2 rfl)) (hts _ (am_gw_at hch.2 rfl)) hE.1 hS.1.1 am_D hS.2.1 ra rb 0 0 ea eb rfl rfl rfl h1 h2 h3 h4 h5 (fun i hi => rfl) hf (by omega) hdg (fun H1 locs1 h1 _ h3 => kk H1 locs1 ⟨am_Hwr hS.1 hrb h1, h3, hS.2.2⟩)
    · cases hcp
  · rename_i t n0 f t' n1 g ha hbb
    split at hcp
    · rename_i hcond
      obtain ⟨rfl, rfl, h1, h2, h3, h4, h5⟩ := hcond
      cases hcp
      have hra : ra < w.1 := am_lt hS.1 ha
      have hrb : rb < w.1 := am_lt hS.1 hbb
      have ea := am_cW_get (cT := cT) (b0 := b0) (oa := oa) hra
      have eb := am_cW_get (cT := cT) (b0 := b0) (oa := oa) hrb
      rw [ha] at ea
      rw [hbb] at eb
      exact va_copyl hx hb (hml.trans hS.2.2.1.1.symm) hown (hts _ (am_gw_at hch.1.1.1.2 rfl)) (hts _ (am_gw_at hch.1.1.2 rfl)) (hts _ (am_gw_at hch.1.2 rfl)) (hts _ (am_gw_at hch.2 rfl)) hE.1 hS.1.1 am_D hS.2.1 ra rb 1 1 ea eb rfl rfl rfl h1 h2 h3 h4 h5 (fun i hi => rfl) hf (by omega) hdg (fun H1 locs1 h1 _ h3 => kk H1 locs1 ⟨am_Hwr hS.1 hrb h1, h3, hS.2.2⟩)
    · cases hcp
  · cases hcp
theorem am_mathW (hC : am_Cx p s m args meth c D cT b0 oa X M) (hS : am_Sm s D cT b0 oa M H locs cells ls L w) {i : Nat} {q : Nat × Nat × Nat × Nat × Bool × List Nat} (hq : am_lq M.1 i am_tM = some q) (hdg : decode M.2.2.1 pc = .ok (.invokestatic i, 3)) {S : List Value} (hl : am_rs S = true) (hf : 1 ≤ R.frames) (hlo : 200 ≤ R.locals) (hc : cells ≤ R.cells) (hs : slots ≤ R.slots) {x y : Int32} :
    (q.1 = 5 → W p l e R s m args below meth c H locs cells slots Q (F0 m (pc + 3) ls (.int (if x < y then y else x) :: S.map (am_cv b0 oa))) → W p l e R s m args below meth c H locs cells slots Q (F0 m pc ls (.int y :: .int x :: S.map (am_cv b0 oa)))) ∧
    (q.1 = 6 → W p l e R s m args below meth c H locs cells slots Q (F0 m (pc + 3) ls (.int (if y < x then y else x) :: S.map (am_cv b0 oa))) → W p l e R s m args below meth c H locs cells slots Q (F0 m pc ls (.int y :: .int x :: S.map (am_cv b0 oa)))) ∧
    (q.1 = 7 → W p l e R s m args below meth c H locs cells slots Q (F0 m (pc + 3) ls (.int (if 0 ≤ x then x else 0 - x) :: S.map (am_cv b0 oa))) → W p l e R s m args below meth c H locs cells slots Q (F0 m pc ls (.int x :: S.map (am_cv b0 oa)))) := by
  obtain ⟨hx, hb, hml, hown, hts, hret, hlocks, hname, hb0, hE⟩ := hC
  obtain ⟨hi, hch⟩ := am_tM_spec hq
  obtain ⟨k, M', nn, ci, nest, ps⟩ := q
  have hcat := am_catS b0 oa hl
  refine ⟨fun h3 kk => ?_, fun h3 kk => ?_, fun h3 kk => ?_⟩
  · simp only at h3
    subst h3
    simp only [am_chM, (am_key hi).1, (am_key hi).2] at hch
    split at hch <;> simp_all only [Prod.mk.injEq, reduceCtorEq, false_and, and_false]
    all_goals first | (exfalso; omega) | skip
    simp only [Bool.and_eq_true, decide_eq_true_eq] at hch
    exact va_mmax hx hb (hml.trans hS.2.2.1.1.symm) hown (hts _ (am_gw_at hch.1.1.1.2 rfl)) (hts _ (am_gw_at hch.2 rfl)) (hts _ (am_gw_at hch.1.2 rfl)) (hts _ (am_gw_at hch.1.1.2 rfl)) hf (by omega) hc hs hdg kk
  · simp only at h3
    subst h3
    simp only [am_chM, (am_key hi).1, (am_key hi).2] at hch
    split at hch <;> simp_all only [Prod.mk.injEq, reduceCtorEq, false_and, and_false]
    all_goals first | (exfalso; omega) | skip
    simp only [Bool.and_eq_true, decide_eq_true_eq] at hch
    exact va_mmin hx hb (hml.trans hS.2.2.1.1.symm) hown (hts _ (am_gw_at hch.1.1.1.2 rfl)) (hts _ (am_gw_at hch.2 rfl)) (hts _ (am_gw_at hch.1.2 rfl)) (hts _ (am_gw_at hch.1.1.2 rfl)) hf (by omega) hc hs hdg kk
  · simp only at h3
    subst h3
    simp only [am_chM, (am_key hi).1, (am_key hi).2] at hch
    split at hch <;> simp_all only [Prod.mk.injEq, reduceCtorEq, false_and, and_false]
    all_goals first | (exfalso; omega) | skip
    simp only [Bool.and_eq_true, decide_eq_true_eq] at hch
    exact va_mabs hx hb (hml.trans hS.2.2.1.1.symm) hown (hts _ (am_gw_at hch.1.1.1.2 rfl)) (hts _ (am_gw_at hch.2 rfl)) (hts _ (am_gw_at hch.1.2 rfl)) (hts _ (am_gw_at hch.1.1.2 rfl)) hf (by omega) hc hs hdg kk
end AMD

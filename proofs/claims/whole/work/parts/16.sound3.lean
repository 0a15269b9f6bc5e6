/-! SOUND, 3: one step that isn't a call of ours -/
section AMB
variable {p : Program} {l : Launch} {e : Env} {R : Room} {s : State} {m : MethodId} {args : Array Value} {below : List Frame} {meth : Method} {c : Code} {H : Heap} {locs : List Loc} {cells slots : Nat} {Q : State → Prop} {ls : Array Slot}
variable {D : va_G} {cT : Nat → ClassId} {b0 : Nat} {oa : UInt32 → Nat} {X : Nat × (Nat → Int32)} {M : am_M}
variable {pc len : Nat} {L S : List Value} {w : am_W} {pc' : Nat} {L' S' : List Value} {w' : am_W}
/-- what comes behind a step -/
def am_KK (p : Program) (l : Launch) (e : Env) (R : Room) (s : State) (m : MethodId) (args : Array Value) (below : List Frame) (meth : Method) (c : Code) (Q : State → Prop) (D : va_G) (cT : Nat → ClassId) (b0 : Nat) (oa : UInt32 → Nat) (M : am_M) (cells slots : Nat) (w : am_W) (pc' : Nat) (L' S' : List Value) (w' : am_W) : Prop :=
  ∀ (H' : Heap) (locs' : List Loc) (ls' : Array Slot) (n1 n2 : Nat), n1 + w.1 = cells + w'.1 → n2 + w.2.1 = slots + w'.2.1 → am_Sm s D cT b0 oa M H' locs' n1 ls' L' w' → W p l e R s m args below meth c H' locs' n1 n2 Q (F0 m pc' ls' (S'.map (am_cv b0 oa)))
def am_RM (R : Room) (cells slots : Nat) (w w' : am_W) : Prop := (∀ n1, n1 + w.1 = cells + w'.1 → n1 ≤ R.cells) ∧ (∀ n2, n2 + w.2.1 = slots + w'.2.1 → n2 ≤ R.slots) ∧ 1 ≤ R.frames ∧ 200 ≤ R.locals
theorem am_KK0 {pc' : Nat} (kk : am_KK p l e R s m args below meth c Q D cT b0 oa M cells slots w pc' L' S' w) (hS : am_Sm s D cT b0 oa M H locs cells ls L' w) : W p l e R s m args below meth c H locs cells slots Q (F0 m pc' ls (S'.map (am_cv b0 oa))) := kk H locs ls cells slots rfl rfl hS
theorem am_stepL {i : Nat} {v : Value} {lv' : List (Nat × Value)} (hS : am_Sm s D cT b0 oa M H locs cells ls L w) (hi : i < L.length) (hv : ∀ a, v ≠ .retAddr a) {ls' : Array Slot} (hl : lv_has ls' M.2.2.2.1 ((i, am_cv b0 oa v) :: (am_lo b0 oa L).filter (fun q => !(q.1 == i) && !(q.1 + 1 == i && q.2.category == 2)))) : am_Sm s D cT b0 oa M H locs cells ls' (L.set i v) w :=
  ⟨hS.1, hS.2.1, am_has_mono hl (am_lo_set1 hi hv), by rw [List.length_set]; exact hS.2.2.2.1, hS.2.2.2.2⟩
/-- getfield -/
theorem am_getW (hC : am_Cx p s m args meth c D cT b0 oa X M) (hS : am_Sm s D cT b0 oa M H locs cells ls L w) {i r : Nat} {q : Nat × Nat × Nat × Bool} (hq : am_lq M.1 i am_tF = some q) (hf : am_isF q.1 q.2.1 (am_rd w r) = true) (hdg : decode M.2.2.1 pc = .ok (.getfield i, 3)) {rest : List Value}
    (kk : W p l e R s m args below meth c H locs cells slots Q (F0 m (pc + 3) ls (am_cv b0 oa (am_fld q.2.1 (am_rd w r)) :: rest))) : W p l e R s m args below meth c H locs cells slots Q (F0 m pc ls (.ref (b0 + r) :: rest)) := by
  obtain ⟨hx, hb, hml, hown, hts, hret, hlocks, hname, hb0, hE⟩ := hC
  obtain ⟨C, hCl, hk, hne, hlink⟩ := am_tF_spec hq
  obtain ⟨fs, hc, hl⟩ := am_isF_spec hf
  have hr : r < w.1 := am_lto hS.1 hc (Or.inr (by omega))
  have he := am_cW_get (cT := cT) (b0 := b0) (oa := oa) hr
  rw [hc] at he
  have hv : (fs.map (am_cv b0 oa))[q.2.1]? = some (am_cv b0 oa (am_fld q.2.1 (am_rd w r))) := by
    rw [hc, List.getElem?_map, List.getElem?_eq_getElem hl]
    simp [am_fld, hl]
  rcases hlink with ⟨-, h⟩ | ⟨-, h⟩
  · exact va_get (own := am_own M.1) (C := C.1) (T := C.2.1) (N := C.2.2) hx hb hts (am_lays_in hCl) hown hE.1 hS.1.1 r he hCl q.2.1 hk (hts _ h) (fun _ z => z) hv hdg kk
  · exact va_getN (own := am_own M.1) (C := C.1) (T := C.2.1) (N := C.2.2) hx hb hts (am_lays_in hCl) hown hE.1 hS.1.1 r he hCl q.2.1 hk (va_Nw.use rfl (hE.2.1 _ h)) (fun _ z => z) hv hdg kk
theorem am_putW (hC : am_Cx p s m args meth c D cT b0 oa X M) (hS : am_Sm s D cT b0 oa M H locs cells ls L w) {i r : Nat} {v : Value} {q : Nat × Nat × Nat × Bool} (hq : am_lq M.1 i am_tF = some q) (hf : am_isF q.1 q.2.1 (am_rd w r) = true) (hmay : am_mayF M q.1 q.2.1 = true) (hfit : am_fits q.1 q.2.1 v = true) (hdg : decode M.2.2.1 pc = .ok (.putfield i, 3)) {rest : List Value}
    (kk : ∀ (H1 : Heap) (locs1 : List Loc), am_Sm s D cT b0 oa M H1 locs1 cells ls L (am_wr w r (am_put q.2.1 (am_rd w r) v)) → W p l e R s m args below meth c H1 locs1 cells slots Q (F0 m (pc + 3) ls rest)) : W p l e R s m args below meth c H locs cells slots Q (F0 m pc ls (am_cv b0 oa v :: .ref (b0 + r) :: rest)) := by
  obtain ⟨hx, hb, hml, hown, hts, hret, hlocks, hname, hb0, hE⟩ := hC
  obtain ⟨C, hCl, hk, hne, hlink⟩ := am_tF_spec hq
  obtain ⟨fs, hc, hl⟩ := am_isF_spec hf
  have hr : r < w.1 := am_lto hS.1 hc (Or.inr (by omega))
  have he := am_cW_get (cT := cT) (b0 := b0) (oa := oa) hr
  rw [hc] at he
  have hty := am_typ hCl
  unfold am_fits at hfit
  simp only [Bool.and_eq_true, decide_eq_true_eq] at hfit
  have hn : narrow (am_ty q.1 q.2.1) (am_cv b0 oa v) = am_cv b0 oa v := by
    have := hfit.1.2
    cases v <;> first | exact this | (cases hz : am_ty q.1 q.2.1 <;> rfl)
  have hfi : fits (am_ty q.1 q.2.1) (am_cv b0 oa v) = true := by
    have := hfit.1.1
    have hnf := hfit.2
    cases v with
    | float b => cases hnf
    | ref a => (cases hz : am_ty q.1 q.2.1 <;> rw [hz] at this <;> first | exact this | cases this)
    | _ => exact this
  have hset : ((am_cW cT b0 oa w).set r (b0 + r, .inr (q.1, (fs.map (am_cv b0 oa)).set q.2.1 (am_cv b0 oa v)))) = (am_cW cT b0 oa w).set r (b0 + r, am_cE cT b0 oa (am_put q.2.1 (am_rd w r) v)) := by
    rw [hc]
    simp only [am_put, am_cE, List.map_set]
  have kk' : ∀ (H1 : Heap) (locs1 : List Loc), va_P D vwCl ((am_cW cT b0 oa w).set r (b0 + r, .inr (q.1, (fs.map (am_cv b0 oa)).set q.2.1 (am_cv b0 oa v)))) H1 → va_D (am_A b0) ((am_cW cT b0 oa w).set r (b0 + r, .inr (q.1, (fs.map (am_cv b0 oa)).set q.2.1 (am_cv b0 oa v)))) → va_S (am_A b0) s.heap H1 locs1 → W p l e R s m args below meth c H1 locs1 cells slots Q (F0 m (pc + 3) ls rest) := fun H1 locs1 h1 _ h3 => kk H1 locs1 ⟨am_Hwr hS.1 hr (by rw [← hset]; exact h1), h3, hS.2.2⟩
  unfold am_mayF at hmay
  have hfin : am_fin q.1 q.2.1 = (C.2.1 q.2.1).2.2.2 := by unfold am_fin; rw [hCl]
  rw [hfin] at hmay
  cases hF : (C.2.1 q.2.1).2.2.2 with
  | false =>
    rcases hlink with ⟨-, h⟩ | ⟨-, h⟩
    · exact va_put (own := am_own M.1) (C := C.1) (T := C.2.1) (N := C.2.2) hx hb hts (am_lays_in hCl) (am_ty q.1) hty.1 hty.2 hown hE.1 hS.1.1 am_D hS.2.1 r he hCl q.2.1 hk (hts _ h) (fun _ z => z) hF (hty.1 _ hk) hn hfi (by simpa using hl) hdg kk'
    · exact va_putN (own := am_own M.1) (C := C.1) (T := C.2.1) (N := C.2.2) hx hb hts (am_lays_in hCl) (am_ty q.1) hty.1 hty.2 hown hE.1 hS.1.1 am_D hS.2.1 r he hCl q.2.1 hk (va_Nw.use rfl (hE.2.1 _ h)) (fun _ z => z) hF (hty.1 _ hk) hn hfi (by simpa using hl) hdg kk'
  | true =>
    rw [hF] at hmay
    simp only [Bool.not_true, Bool.false_or, Bool.and_eq_true, beq_iff_eq] at hmay
    rcases hlink with ⟨-, h⟩ | ⟨hn', h⟩
    · exact va_putF (own := am_own M.1) (C := C.1) (T := C.2.1) (N := C.2.2) hx hb hts (am_lays_in hCl) (am_ty q.1) hty.1 hty.2 hown hE.1 hS.1.1 am_D hS.2.1 r he hCl q.2.1 hk (hts _ h) (fun _ z => z) hF (hname hmay.1) (by rw [am_decl hCl hk, hmay.2]) (hty.1 _ hk) hn hfi (by simpa using hl) hdg kk'
    · exact absurd hmay.2 (hne hn')
/-- arrays -/
theorem am_ialdW (hC : am_Cx p s m args meth c D cT b0 oa X M) (hS : am_Sm s D cT b0 oa M H locs cells ls L w) {r : Nat} {i : Int32} (hf : am_isI 0 (am_rd w r) i = true) (hdg : decode M.2.2.1 pc = .ok (.iaload, 1)) {rest : List Value}
    (kk : W p l e R s m args below meth c H locs cells slots Q (F0 m (pc + 1) ls (.int (am_geI (am_rd w r) i) :: rest))) : W p l e R s m args below meth c H locs cells slots Q (F0 m pc ls (.int i :: .ref (b0 + r) :: rest)) := by
  obtain ⟨hx, hb, hml, hown, hts, hret, hlocks, hname, hb0, hE⟩ := hC
  obtain ⟨n, f, hc, hin⟩ := am_isI_spec hf
  have hr : r < w.1 := am_lt hS.1 hc
  have he := am_cW_get (cT := cT) (b0 := b0) (oa := oa) hr
  rw [hc] at he kk
  exact va_iald hx hb hE.1 hS.1.1 r 0 he rfl hin hdg kk
theorem am_caldW (hC : am_Cx p s m args meth c D cT b0 oa X M) (hS : am_Sm s D cT b0 oa M H locs cells ls L w) {r : Nat} {i : Int32} (hf : am_isI 2 (am_rd w r) i = true) (hdg : decode M.2.2.1 pc = .ok (.caload, 1)) {rest : List Value}
    (kk : W p l e R s m args below meth c H locs cells slots Q (F0 m (pc + 1) ls (.int (am_geI (am_rd w r) i) :: rest))) : W p l e R s m args below meth c H locs cells slots Q (F0 m pc ls (.int i :: .ref (b0 + r) :: rest)) := by
  obtain ⟨hx, hb, hml, hown, hts, hret, hlocks, hname, hb0, hE⟩ := hC
  obtain ⟨n, f, hc, hin⟩ := am_isI_spec hf
  have hr : r < w.1 := am_lt hS.1 hc
  have he := am_cW_get (cT := cT) (b0 := b0) (oa := oa) hr
  rw [hc] at he kk
  exact va_cald hx hb hE.1 hS.1.1 r 2 he rfl hin hdg kk
theorem am_laldW (hC : am_Cx p s m args meth c D cT b0 oa X M) (hS : am_Sm s D cT b0 oa M H locs cells ls L w) {r : Nat} {i : Int32} (hf : am_isJ 1 (am_rd w r) i = true) (hdg : decode M.2.2.1 pc = .ok (.laload, 1)) {rest : List Value}
    (kk : W p l e R s m args below meth c H locs cells slots Q (F0 m (pc + 1) ls (.long (am_geJ (am_rd w r) i) :: rest))) : W p l e R s m args below meth c H locs cells slots Q (F0 m pc ls (.int i :: .ref (b0 + r) :: rest)) := by
  obtain ⟨hx, hb, hml, hown, hts, hret, hlocks, hname, hb0, hE⟩ := hC
  obtain ⟨n, f, hc, hin⟩ := am_isJ_spec hf
  have hr : r < w.1 := am_lt hS.1 hc
  have he := am_cW_get (cT := cT) (b0 := b0) (oa := oa) hr
  rw [hc] at he kk
  exact va_lald hx hb hE.1 hS.1.1 r 1 he rfl hin hdg kk
theorem am_rf (o : Option Nat) : am_cv b0 oa (va_rf o) = va_rf (o.map (fun r => b0 + r)) := by cases o <;> rfl
theorem am_aaldW (hC : am_Cx p s m args meth c D cT b0 oa X M) (hS : am_Sm s D cT b0 oa M H locs cells ls L w) {r : Nat} {i : Int32} (hf : am_isA (am_rd w r) i = true) (hdg : decode M.2.2.1 pc = .ok (.aaload, 1)) {rest : List Value}
    (kk : W p l e R s m args below meth c H locs cells slots Q (F0 m (pc + 1) ls (am_cv b0 oa (am_geA (am_rd w r) i) :: rest))) : W p l e R s m args below meth c H locs cells slots Q (F0 m pc ls (.int i :: .ref (b0 + r) :: rest)) := by
  obtain ⟨hx, hb, hml, hown, hts, hret, hlocks, hname, hb0, hE⟩ := hC
  obtain ⟨t, n, f, hc, hin, ht⟩ := am_isA_spec hf
  have hr : r < w.1 := am_lt hS.1 hc
  have he := am_cW_get (cT := cT) (b0 := b0) (oa := oa) hr
  rw [hc] at he kk
  simp only [am_geA] at kk
  rw [am_rf] at kk
  rcases ht with rfl | rfl
  · exact va_aldq (C := "SoupCourt$Shelf") hx hb hE.1 hS.1.1 r 3 he rfl hin hdg kk
  · exact va_aldq (C := "SoupCourt$Pot") hx hb hE.1 hS.1.1 r 4 he rfl hin hdg kk
theorem am_iastW (hC : am_Cx p s m args meth c D cT b0 oa X M) (hS : am_Sm s D cT b0 oa M H locs cells ls L w) {r : Nat} {i x : Int32} (hf : am_isI 0 (am_rd w r) i = true) (hdg : decode M.2.2.1 pc = .ok (.iastore, 1)) {rest : List Value}
    (kk : ∀ (H1 : Heap) (locs1 : List Loc), am_Sm s D cT b0 oa M H1 locs1 cells ls L (am_wr w r (am_seI (am_rd w r) i x)) → W p l e R s m args below meth c H1 locs1 cells slots Q (F0 m (pc + 1) ls rest)) : W p l e R s m args below meth c H locs cells slots Q (F0 m pc ls (.int x :: .int i :: .ref (b0 + r) :: rest)) := by
  obtain ⟨hx, hb, hml, hown, hts, hret, hlocks, hname, hb0, hE⟩ := hC
  obtain ⟨n, f, hc, hin⟩ := am_isI_spec hf
  have hr : r < w.1 := am_lt hS.1 hc
  have he := am_cW_get (cT := cT) (b0 := b0) (oa := oa) hr
  rw [hc] at he kk
  exact va_iast hx hb hE.1 hS.1.1 am_D hS.2.1 r 0 he rfl hin hdg (fun H1 locs1 h1 _ h3 => kk H1 locs1 ⟨am_Hwr hS.1 hr h1, h3, hS.2.2⟩)
theorem am_castW (hC : am_Cx p s m args meth c D cT b0 oa X M) (hS : am_Sm s D cT b0 oa M H locs cells ls L w) {r : Nat} {i x : Int32} (hf : am_isI 2 (am_rd w r) i = true) (hdg : decode M.2.2.1 pc = .ok (.castore, 1)) {rest : List Value}
    (kk : ∀ (H1 : Heap) (locs1 : List Loc), am_Sm s D cT b0 oa M H1 locs1 cells ls L (am_wr w r (am_seI (am_rd w r) i (vp_nar .char x))) → W p l e R s m args below meth c H1 locs1 cells slots Q (F0 m (pc + 1) ls rest)) : W p l e R s m args below meth c H locs cells slots Q (F0 m pc ls (.int x :: .int i :: .ref (b0 + r) :: rest)) := by
  obtain ⟨hx, hb, hml, hown, hts, hret, hlocks, hname, hb0, hE⟩ := hC
  obtain ⟨n, f, hc, hin⟩ := am_isI_spec hf
  have hr : r < w.1 := am_lt hS.1 hc
  have he := am_cW_get (cT := cT) (b0 := b0) (oa := oa) hr
  rw [hc] at he kk
  exact va_cast hx hb hE.1 hS.1.1 am_D hS.2.1 r 2 he rfl hin hdg (fun H1 locs1 h1 _ h3 => kk H1 locs1 ⟨am_Hwr hS.1 hr h1, h3, hS.2.2⟩)
theorem am_lastW (hC : am_Cx p s m args meth c D cT b0 oa X M) (hS : am_Sm s D cT b0 oa M H locs cells ls L w) {r : Nat} {i : Int32} {x : Int64} (hf : am_isJ 1 (am_rd w r) i = true) (hdg : decode M.2.2.1 pc = .ok (.lastore, 1)) {rest : List Value}
    (kk : ∀ (H1 : Heap) (locs1 : List Loc), am_Sm s D cT b0 oa M H1 locs1 cells ls L (am_wr w r (am_seJ (am_rd w r) i x)) → W p l e R s m args below meth c H1 locs1 cells slots Q (F0 m (pc + 1) ls rest)) : W p l e R s m args below meth c H locs cells slots Q (F0 m pc ls (.long x :: .int i :: .ref (b0 + r) :: rest)) := by
  obtain ⟨hx, hb, hml, hown, hts, hret, hlocks, hname, hb0, hE⟩ := hC
  obtain ⟨n, f, hc, hin⟩ := am_isJ_spec hf
  have hr : r < w.1 := am_lt hS.1 hc
  have he := am_cW_get (cT := cT) (b0 := b0) (oa := oa) hr
  rw [hc] at he kk
  exact va_last hx hb hE.1 hS.1.1 am_D hS.2.1 r 1 he rfl hin hdg (fun H1 locs1 h1 _ h3 => kk H1 locs1 ⟨am_Hwr hS.1 hr h1, h3, hS.2.2⟩)
theorem am_aastW (hC : am_Cx p s m args meth c D cT b0 oa X M) (hS : am_Sm s D cT b0 oa M H locs cells ls L w) {r v : Nat} {i : Int32} (hf : am_isA (am_rd w r) i = true) (ho : am_isO (am_el (am_rd w r)) (am_rd w v) = true) (hdg : decode M.2.2.1 pc = .ok (.aastore, 1)) {rest : List Value}
    (kk : ∀ (H1 : Heap) (locs1 : List Loc), am_Sm s D cT b0 oa M H1 locs1 cells ls L (am_wr w r (am_seA (am_rd w r) i v)) → W p l e R s m args below meth c H1 locs1 cells slots Q (F0 m (pc + 1) ls rest)) : W p l e R s m args below meth c H locs cells slots Q (F0 m pc ls (.ref (b0 + v) :: .int i :: .ref (b0 + r) :: rest)) := by
  obtain ⟨hx, hb, hml, hown, hts, hret, hlocks, hname, hb0, hE⟩ := hC
  obtain ⟨t, n, f, hc, hin, ht⟩ := am_isA_spec hf
  have hr : r < w.1 := am_lt hS.1 hc
  have he := am_cW_get (cT := cT) (b0 := b0) (oa := oa) hr
  obtain ⟨vs, hv⟩ := am_isO_spec ho
  rw [hc] at he kk hv
  have hset : (am_cW cT b0 oa w).set r (b0 + r, .inl (cT t, n, .inr (.inr (.inr (.inr (va_up (fun j => (f j).map (fun r => b0 + r)) i.toNatClampNeg (some (b0 + v)))))))) = (am_cW cT b0 oa w).set r (b0 + r, am_cE cT b0 oa (.inl (t, n, .inr (.inr (.inr (.inr (va_up f i.toNatClampNeg (some v)))))))) := by
    simp only [am_cE]
    congr 1
    refine congrArg _ (congrArg _ (congrArg _ (congrArg _ (congrArg _ (congrArg _ (congrArg _ (congrArg _ ?_)))))))
    funext j
    unfold va_up
    by_cases hj : j = i.toNatClampNeg <;> simp [hj]
  have kk' : ∀ (H1 : Heap) (locs1 : List Loc), va_P D vwCl ((am_cW cT b0 oa w).set r (b0 + r, .inl (cT t, n, .inr (.inr (.inr (.inr (va_up (fun j => (f j).map (fun r => b0 + r)) i.toNatClampNeg (some (b0 + v))))))))) H1 → va_D (am_A b0) ((am_cW cT b0 oa w).set r (b0 + r, .inl (cT t, n, .inr (.inr (.inr (.inr (va_up (fun j => (f j).map (fun r => b0 + r)) i.toNatClampNeg (some (b0 + v))))))))) → va_S (am_A b0) s.heap H1 locs1 → W p l e R s m args below meth c H1 locs1 cells slots Q (F0 m (pc + 1) ls rest) := fun H1 locs1 h1 _ h3 => kk H1 locs1 ⟨am_Hwr hS.1 hr (by rw [hset] at h1; exact h1), h3, hS.2.2⟩
  rcases ht with rfl | rfl
  · have hr' : v < w.1 := am_lto hS.1 hv (Or.inl (show (8 : Nat) ≠ 1000 by decide))
    have hv' := am_cW_get (cT := cT) (b0 := b0) (oa := oa) hr'
    rw [hv] at hv'
    exact va_astq (r := (RX8, TX8, 5)) hx hb hE.1 hS.1.1 am_D hS.2.1 r 3 v 8 he rfl hv' rfl hin hdg kk'
  · have hr' : v < w.1 := am_lto hS.1 hv (Or.inl (show (6 : Nat) ≠ 1000 by decide))
    have hv' := am_cW_get (cT := cT) (b0 := b0) (oa := oa) hr'
    rw [hv] at hv'
    exact va_astq (r := (RX6, TX6, 5)) hx hb hE.1 hS.1.1 am_D hS.2.1 r 4 v 6 he rfl hv' rfl hin hdg kk'
theorem am_alenW (hC : am_Cx p s m args meth c D cT b0 oa X M) (hS : am_Sm s D cT b0 oa M H locs cells ls L w) {r : Nat} (hf : am_isL (am_rd w r) = true) (hdg : decode M.2.2.1 pc = .ok (.arraylength, 1)) {rest : List Value}
    (kk : W p l e R s m args below meth c H locs cells slots Q (F0 m (pc + 1) ls (.int (am_len (am_rd w r)) :: rest))) : W p l e R s m args below meth c H locs cells slots Q (F0 m pc ls (.ref (b0 + r) :: rest)) := by
  obtain ⟨hx, hb, hml, hown, hts, hret, hlocks, hname, hb0, hE⟩ := hC
  cases hc : am_rd w r with
  | inr o => rw [hc] at hf; cases hf
  | inl a =>
    obtain ⟨t, n, f⟩ := a
    have hr : r < w.1 := am_lt hS.1 hc
    have he := am_cW_get (cT := cT) (b0 := b0) (oa := oa) hr
    rw [hc] at he kk hf
    simp only [am_isL, decide_eq_true_eq] at hf
    have ht : ∃ ty, (am_tys cT)[t]? = some (cT t, ty) := by
      rcases (by omega : t = 0 ∨ t = 1 ∨ t = 2 ∨ t = 3 ∨ t = 4) with rfl | rfl | rfl | rfl | rfl <;> exact ⟨_, rfl⟩
    obtain ⟨ty, ht⟩ := ht
    rcases f with f | f | f | f | f
    · exact va_alen (v := Int32.ofNat n) hx hb hE.1 hS.1.1 r t he ht rfl hdg kk
    · exact va_alen (v := Int32.ofNat n) hx hb hE.1 hS.1.1 r t he ht rfl hdg kk
    · exact va_alen (v := Int32.ofNat n) hx hb hE.1 hS.1.1 r t he ht rfl hdg kk
    · exact va_alen (v := Int32.ofNat n) hx hb hE.1 hS.1.1 r t he ht rfl hdg kk
    · exact va_alen (v := Int32.ofNat n) hx hb hE.1 hS.1.1 r t he ht rfl hdg kk
/-- the arrays from outside -/
theorem am_oldW (hC : am_Cx p s m args meth c D cT b0 oa X M) (hS : am_Sm s D cT b0 oa M H locs cells ls L w) {k : UInt32} {i : Int32} (hk : k ≤ 5) (hf : am_in i (am_out X k).1 = true) (hdg : decode M.2.2.1 pc = .ok (.iaload, 1)) {rest : List Value}
    (kk : W p l e R s m args below meth c H locs cells slots Q (F0 m (pc + 1) ls (.int ((am_out X k).2 i.toNatClampNeg) :: rest))) : W p l e R s m args below meth c H locs cells slots Q (F0 m pc ls (.int i :: .ref (oa k) :: rest)) := by
  obtain ⟨hx, hb, hml, hown, hts, hret, hlocks, hname, hb0, hE⟩ := hC
  obtain ⟨cell, h1, h2, h3, h4, h5, h6, h7⟩ := hE.2.2.2.1 k hk
  have hin := am_in_iff.mp hf
  have hlt : i.toNatClampNeg < (am_out X k).1 := Nat.not_le.mp fun q => hin (Or.inr q)
  exact W.iald (v := .int ((am_out X k).2 i.toNatClampNeg)) hx hb (by rw [hS.2.1.2.1 (oa k) (Array.getElem?_eq_some_iff.mp h1).1 h7]; exact h1) h2 h3 (by
    rintro (z | z)
    · exact hin (Or.inl z)
    · omega) (h6 _ hlt) rfl rfl hdg kk
theorem am_olenW (hC : am_Cx p s m args meth c D cT b0 oa X M) (hS : am_Sm s D cT b0 oa M H locs cells ls L w) {k : UInt32} (hk : k ≤ 5) (hdg : decode M.2.2.1 pc = .ok (.arraylength, 1)) {rest : List Value}
    (kk : W p l e R s m args below meth c H locs cells slots Q (F0 m (pc + 1) ls (.int (Int32.ofNat (am_out X k).1) :: rest))) : W p l e R s m args below meth c H locs cells slots Q (F0 m pc ls (.ref (oa k) :: rest)) := by
  obtain ⟨hx, hb, hml, hown, hts, hret, hlocks, hname, hb0, hE⟩ := hC
  obtain ⟨cell, h1, h2, h3, h4, h5, h6, h7⟩ := hE.2.2.2.1 k hk
  exact W.alen (n := Int32.ofNat (am_out X k).1) hx hb (by rw [hS.2.1.2.1 (oa k) (Array.getElem?_eq_some_iff.mp h1).1 h7]; exact h1) h2 h5 rfl rfl hdg kk
end AMB

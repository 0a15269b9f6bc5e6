/-! SOUND, 9: calls, whole methods -/
section AMX
variable {p : Program} {l : Launch} {e : Env} {R : Room} {s : State} {m : MethodId} {args : Array Value} {below : List Frame} {meth : Method} {c : Code} {H : Heap} {locs : List Loc} {cells slots : Nat} {Q : State → Prop} {ls : Array Slot}
variable {D : va_G} {cT : Nat → ClassId} {b0 : Nat} {oa : UInt32 → Nat} {X : Nat × (Nat → Int32)} {M : am_M}
variable {pc len : Nat} {L S : List Value} {w : am_W} {pc' : Nat} {L' S' : List Value} {w' : am_W}
theorem am_cB (hts : ∀ w ∈ am_gw, w.before args s = true) {M' : am_M} (hM' : M' ∈ am_Ms) {own : String} {i n mc ms : Nat} {rm : Room} (hrc : rm.cells = mc) (hrs : rm.slots = ms) (hini : (Cond.initialized M'.2.1.cls).before args s = true) (hl : (Cond.methodLink own i M'.2.1).before args s = true) (hpl : am_plain M' = true) (hn : (parseMethodDescriptor M'.2.1.desc).map (fun d => d.parameters.length) = some n) (hR : rm.frames + 1 ≤ R.frames ∧ 8 + (M'.2.2.2.1 + 11) + rm.locals ≤ R.locals) :
    CallB R s args own i M'.2.1 M'.2.2.1 M'.2.2.2.1 M'.2.2.2.2 (am_cw M' :: am_gw) rm mc ms n := by
  unfold am_plain at hpl
  simp only [Bool.and_eq_true, decide_eq_true_eq] at hpl
  exact callB_of n hts (am_goodW hM') rfl hrc hrs hini hl ⟨hpl.1.1.1, hpl.1.1.2, hn⟩ hR
theorem am_cN (hts : ∀ w ∈ am_gw, w.before args s = true) {M' : am_M} (hM' : M' ∈ am_Ms) {own host : String} {i n mc ms : Nat} {rm : Room} (hrc : rm.cells = mc) (hrs : rm.slots = ms) (hini : (Cond.initialized M'.2.1.cls).before args s = true) (hl : va_Nw (.methodLinkNest own i M'.2.1 host) s) (hpl : am_plain M' = true) (hn : (parseMethodDescriptor M'.2.1.desc).map (fun d => d.parameters.length) = some n) (hR : rm.frames + 1 ≤ R.frames ∧ 8 + (M'.2.2.2.1 + 11) + rm.locals ≤ R.locals) :
    va_CN R s args own i M'.2.1 host M'.2.2.1 M'.2.2.2.1 M'.2.2.2.2 (am_cw M' :: am_gw) rm mc ms n := by
  unfold am_plain at hpl
  simp only [Bool.and_eq_true, decide_eq_true_eq] at hpl
  exact va_cnB n hts (am_goodW hM') rfl hrc hrs hl hini ⟨hpl.1.1.1, hpl.1.1.2, hn⟩ hR
set_option maxHeartbeats 4000000 in
theorem am_callW (hC : am_Cx p s m args meth c D cT b0 oa X M) (hS : am_Sm s D cT b0 oa M H locs cells ls L w) {M' : am_M} {as : List Value} {w1 w2 : am_W} {r : Option Value} {d : Nat} (ha : am_act X M pc L S w = some (.inr (.inr (M', as, pc', L', S', w1))))
    (hfr : d + 1 ≤ R.frames) (hlo : 300 * (d + 1) ≤ R.locals) (hc : cells + (w2.1 - w.1) ≤ R.cells) (hs : slots + (w2.2.1 - w.2.1) ≤ R.slots)
    (hM : M' ∈ am_Ms → am_plain M' = true → am_Met l D cT b0 oa X d M' as w r w2)
    (kk : ∀ (H1 : Heap) (locs1 : List Loc), am_H D cT b0 oa w2 H1 → va_S (am_A b0) s.heap H1 locs1 → W p l e R s m args below meth c H1 locs1 (cells + (w2.1 - w.1)) (slots + (w2.2.1 - w.2.1)) Q (F0 m pc' ls ((r.toList ++ S').map (am_cv b0 oa)))) : w1 = w ∧ L' = L ∧ M' ∈ am_Ms ∧ W p l e R s m args below meth c H locs cells slots Q (F0 m pc ls (S.map (am_cv b0 oa))) := by
  have hx := hC.1
  have hb := hC.2.1
  have hml := hC.2.2.1
  have hown := hC.2.2.2.1
  have hts := hC.2.2.2.2.1
  have hE := hC.2.2.2.2.2.2.2.2.2
  have hsz : ls.size = M.2.2.2.1 := hS.2.2.1.1
  unfold am_act at ha
  split at ha
  · rename_i q0 hd
    obtain ⟨ins, len⟩ := q0
    simp only at ha
    have hw1 : w1 = w := am_shape ha
    have kk' : ∀ (H1 : Heap) (locs1 : List Loc), am_H D cT b0 oa w2 H1 → va_S (am_A b0) s.heap H1 locs1 → W p l e R s m args below meth c H1 locs1 (cells + (w2.1 - w.1)) (slots + (w2.2.1 - w.2.1)) Q (F0 m pc' ls ((r.map (am_cv b0 oa)).toList ++ S'.map (am_cv b0 oa))) := by
      intro H1 locs1 h1 h2
      have := kk H1 locs1 h1 h2
      cases r <;> exact this
    cases ins with
    | invokevirtual i =>
      simp only [am_ins] at ha
      split at ha
      · rename_i q hq
        split at ha
        · rename_i hk
          obtain ⟨hk, rfl⟩ := hk
          split at ha
          · rename_i as0 rr S0 hp
            split at ha
            · rename_i hcond
              simp only [Bool.and_eq_true] at hcond
              cases ha
              obtain ⟨hlen, hst⟩ := am_pop0 hp
              obtain ⟨hi, hch⟩ := am_tM_spec hq
              obtain ⟨k, mi, n, ci, nest, ps⟩ := q
              simp only at hk
              subst hk
              simp only [am_chM, (am_key hi).1, (am_key hi).2] at hch
              split at hch
              · rename_i M0 n0 ci0 nest0 p0 p2 p3 p4 heq
                simp only [Prod.mk.injEq] at heq
                obtain ⟨-, rfl, rfl, rfl, rfl, rfl⟩ := heq
                simp only [Bool.and_eq_true, decide_eq_true_eq] at hch
                obtain ⟨⟨⟨⟨⟨⟨hmi, hpl⟩, hn⟩, hlink⟩, hini⟩, hinst⟩, hsel⟩ := hch.1
                have hcls := hch.2
                have hMm := am_mt_mem hmi
                refine ⟨rfl, rfl, hMm, ?_⟩
                refine am_sz fun hu => ?_
                have hz := am_Sz hS.1 hS.2.1 hS.2.2.2.2 hC.2.2.2.2.2.2.2.2.1 hu
                obtain ⟨fs, hfs⟩ := am_isO_spec hcond.1
                cases hCl : vwCl[ci]? with
                | none => rw [hCl] at hcls; cases hcls
                | some C =>
                  rw [hCl] at hcls
                  have hcn : C.1 = (am_mt mi).2.1.cls := Option.some.inj hcls
                  have hci : ci < 12 := by
                    have := (List.getElem?_eq_some_iff.mp hCl).1
                    simpa using this
                  have hr : rr < w.1 := am_lto hS.1 hfs (Or.inl (show ci ≠ 1000 by omega))
                  have he := am_cW_get (cT := cT) (b0 := b0) (oa := oa) hr
                  rw [hfs] at he
                  have hrecv := va_recv hE.1 hS.1.1 hCl he
                  rw [hcn] at hrecv
                  have hRm : d + 1 ≤ R.frames ∧ 8 + ((am_mt mi).2.2.2.1 + 11) + 300 * d ≤ R.locals := ⟨hfr, by have := am_maxL_le hMm; omega⟩
                  have hpre : PreV s H (am_mt mi).2.1.cls (b0 + rr) (am_Pc D cT b0 oa X (.ref rr :: as0) w) (as0.map (am_cv b0 oa)) := ⟨am_blind, hrecv, am_preU hC hS hz⟩
                  have hstk : (F0 m pc ls (S.map (am_cv b0 oa))).stack = (as0.map (am_cv b0 oa)).reverse ++ .ref (b0 + rr) :: S'.map (am_cv b0 oa) := by
                    show S.map (am_cv b0 oa) = _
                    rw [hst]
                    simp [am_cv]
                  have hrm := lv_room (m := m) (pc := pc) (ls := ls) (rest := S.map (am_cv b0 oa)) (am_catS b0 oa hcond.2)
                  have hrun : va_Run p l e R s m args below meth c H locs cells slots (w2.1 - w.1) (w2.2.1 - w.2.1) (F0 m pc ls (S.map (am_cv b0 oa))) (S'.map (am_cv b0 oa)) (am_Qc D cT b0 oa r w2 (Value.ref (b0 + rr) :: as0.map (am_cv b0 oa)).toArray) (am_A b0) := by
                    cases nest with
                    | false =>
                      exact va_runV (n := n) ⟨hx, hb, rfl, hown, hts⟩ (hM hMm hpl) ⟨am_cB hts hMm rfl rfl (hts _ (am_gw_at hini rfl)) (hts _ (am_gw_at hlink rfl)) hpl hn hRm, hts _ (am_gw_at hinst rfl), hts _ (am_gw_at hsel rfl)⟩ hpre rfl (by rw [List.length_map]; exact hlen) (hsz.trans hml.symm) hstk hrm hd ⟨hc, hs⟩
                    | true =>
                      exact va_runVN (n := n) ⟨hx, hb, rfl, hown, hts⟩ (hM hMm hpl) ⟨am_cN hts hMm rfl rfl (hts _ (am_gw_at hini rfl)) (hE.2.1 _ (am_nw_at hlink rfl)) hpl hn hRm, hts _ (am_gw_at hinst rfl), hts _ (am_gw_at hsel rfl)⟩ hpre rfl (by rw [List.length_map]; exact hlen) (hsz.trans hml.symm) hstk hrm hd ⟨hc, hs⟩
                  exact am_goes hrun hS.2.1 kk'
              all_goals first | (rename_i heq; simp only [Prod.mk.injEq] at heq; exfalso; omega) | cases hch
            · cases ha
          · cases ha
        · cases ha
      · cases ha
    | invokestatic i =>
      simp only [am_ins] at ha
      split at ha
      · rename_i q hq
        split at ha
        · rename_i hk
          obtain ⟨hk, rfl⟩ := hk
          split at ha
          · rename_i as0 S0 hp
            split at ha
            · rename_i hcond
              cases ha
              obtain ⟨hlen, hst⟩ := am_pop0 hp
              obtain ⟨hi, hch⟩ := am_tM_spec hq
              obtain ⟨k, mi, n, ci, nest, ps⟩ := q
              simp only at hk
              subst hk
              simp only [am_chM, (am_key hi).1, (am_key hi).2] at hch
              split at hch
              · rename_i heq
                simp only [Prod.mk.injEq] at heq
                exfalso
                omega
              · rename_i M0 n0 ci0 nest0 p0 p2 p3 heq
                simp only [Prod.mk.injEq] at heq
                obtain ⟨-, rfl, rfl, rfl, rfl, rfl⟩ := heq
                simp only [Bool.and_eq_true, decide_eq_true_eq] at hch
                obtain ⟨⟨⟨⟨⟨hmi, hpl⟩, hn⟩, hlink⟩, hini⟩, hstat⟩ := hch
                have hMm := am_mt_mem hmi
                refine ⟨rfl, rfl, hMm, ?_⟩
                refine am_sz fun hu => ?_
                have hz := am_Sz hS.1 hS.2.1 hS.2.2.2.2 hC.2.2.2.2.2.2.2.2.1 hu
                have hRm : d + 1 ≤ R.frames ∧ 8 + ((am_mt mi).2.2.2.1 + 11) + 300 * d ≤ R.locals := ⟨hfr, by have := am_maxL_le hMm; omega⟩
                have hpre : PreS s H (am_Pc D cT b0 oa X as w) (as.map (am_cv b0 oa)) := ⟨am_blind, am_preU hC hS hz⟩
                have hstk : (F0 m pc ls (S.map (am_cv b0 oa))).stack = (as.map (am_cv b0 oa)).reverse ++ S'.map (am_cv b0 oa) := by
                  show S.map (am_cv b0 oa) = _
                  rw [hst]
                  simp
                have hrm := lv_room (m := m) (pc := pc) (ls := ls) (rest := S.map (am_cv b0 oa)) (am_catS b0 oa hcond)
                have hrun : va_Run p l e R s m args below meth c H locs cells slots (w2.1 - w.1) (w2.2.1 - w.2.1) (F0 m pc ls (S.map (am_cv b0 oa))) (S'.map (am_cv b0 oa)) (am_Qc D cT b0 oa r w2 (as.map (am_cv b0 oa)).toArray) (am_A b0) := by
                  cases nest with
                  | false =>
                    exact va_runS (n := n) ⟨hx, hb, rfl, hown, hts⟩ (hM hMm hpl) ⟨am_cB hts hMm rfl rfl (hts _ (am_gw_at hini rfl)) (hts _ (am_gw_at hlink rfl)) hpl hn hRm, hts _ (am_gw_at hstat rfl)⟩ hpre rfl (by rw [List.length_map]; exact hlen) (hsz.trans hml.symm) hstk hrm hd ⟨hc, hs⟩
                  | true =>
                    exact va_runSN (n := n) ⟨hx, hb, rfl, hown, hts⟩ (hM hMm hpl) ⟨am_cN hts hMm rfl rfl (hts _ (am_gw_at hini rfl)) (hE.2.1 _ (am_nw_at hlink rfl)) hpl hn hRm, hts _ (am_gw_at hstat rfl), trivial⟩ hpre rfl (by rw [List.length_map]; exact hlen) (hsz.trans hml.symm) hstk hrm hd ⟨hc, hs⟩
                exact am_goes hrun hS.2.1 kk'
              all_goals first | (rename_i heq; simp only [Prod.mk.injEq] at heq; exfalso; omega) | cases hch
            · cases ha
          · cases ha
        · rename_i hk0
          split at ha
          · split at ha
            · split at ha
              · split at ha <;> cases ha
              · cases ha
            · cases ha
          · split at ha
            · split at ha
              · split at ha <;> cases ha
              · cases ha
            · split at ha
              · split at ha
                · split at ha <;> cases ha
                · cases ha
              · split at ha
                · split at ha
                  · split at ha <;> cases ha
                  · cases ha
                · cases ha
      · cases ha
    | invokespecial i =>
      simp only [am_ins] at ha
      split at ha
      · rename_i q hq
        split at ha
        · rename_i hk
          obtain ⟨hk, rfl⟩ := hk
          split at ha
          · rename_i as0 rr S0 hp
            split at ha
            · rename_i hcond
              cases ha
              obtain ⟨hlen, hst⟩ := am_pop0 hp
              obtain ⟨hi, hch⟩ := am_tM_spec hq
              obtain ⟨k, mi, n, ci, nest, ps⟩ := q
              simp only at hk
              subst hk
              simp only [am_chM, (am_key hi).1, (am_key hi).2] at hch
              split at hch
              · rename_i heq
                simp only [Prod.mk.injEq] at heq
                exfalso
                omega
              · rename_i heq
                simp only [Prod.mk.injEq] at heq
                exfalso
                omega
              · rename_i M0 n0 ci0 nest0 p0 p2 p3 heq
                simp only [Prod.mk.injEq] at heq
                obtain ⟨-, rfl, rfl, rfl, rfl, rfl⟩ := heq
                simp only [Bool.and_eq_true, decide_eq_true_eq] at hch
                obtain ⟨⟨⟨⟨⟨⟨⟨hmi, hpl⟩, hn⟩, hlink⟩, hini⟩, hinst⟩, hnm⟩, hrt⟩ := hch
                have hMm := am_mt_mem hmi
                refine ⟨rfl, rfl, hMm, ?_⟩
                refine am_sz fun hu => ?_
                have hz := am_Sz hS.1 hS.2.1 hS.2.2.2.2 hC.2.2.2.2.2.2.2.2.1 hu
                have hRm : d + 1 ≤ R.frames ∧ 8 + ((am_mt mi).2.2.2.1 + 11) + 300 * d ≤ R.locals := ⟨hfr, by have := am_maxL_le hMm; omega⟩
                have hpre : PreS s H (am_Pc D cT b0 oa X (.ref rr :: as0) w) (.ref (b0 + rr) :: as0.map (am_cv b0 oa)) := ⟨am_blind, am_preU hC hS hz⟩
                have hstk : (F0 m pc ls (S.map (am_cv b0 oa))).stack = (as0.map (am_cv b0 oa)).reverse ++ .ref (b0 + rr) :: S'.map (am_cv b0 oa) := by
                  show S.map (am_cv b0 oa) = _
                  rw [hst]
                  simp [am_cv]
                have hrm := lv_room (m := m) (pc := pc) (ls := ls) (rest := S.map (am_cv b0 oa)) (am_catS b0 oa hcond)
                have hrun : va_Run p l e R s m args below meth c H locs cells slots (w2.1 - w.1) (w2.2.1 - w.2.1) (F0 m pc ls (S.map (am_cv b0 oa))) (S'.map (am_cv b0 oa)) (am_Qc D cT b0 oa r w2 (Value.ref (b0 + rr) :: as0.map (am_cv b0 oa)).toArray) (am_A b0) := by
                  cases nest with
                  | false =>
                    have hcb := am_cB (R := R) hts hMm (rm := { frames := d, cells := w2.1 - w.1, slots := w2.2.1 - w.2.1, locals := 300 * d }) rfl rfl (hts _ (am_gw_at hini rfl)) (hts _ (am_gw_at hlink rfl)) hpl hn hRm
                    rw [hrt] at hcb
                    exact va_runI (n := n) ⟨hx, hb, rfl, hown, hts⟩ (hM hMm hpl) ⟨hcb, hnm, hts _ (am_gw_at hinst rfl)⟩ hpre rfl (by rw [List.length_map]; exact hlen) (hsz.trans hml.symm) hstk hrm hd ⟨hc, hs⟩
                  | true =>
                    have hcb := am_cN (R := R) hts hMm (rm := { frames := d, cells := w2.1 - w.1, slots := w2.2.1 - w.2.1, locals := 300 * d }) rfl rfl (hts _ (am_gw_at hini rfl)) (hE.2.1 _ (am_nw_at hlink rfl)) hpl hn hRm
                    rw [hrt] at hcb
                    exact va_runIN (n := n) ⟨hx, hb, rfl, hown, hts⟩ (hM hMm hpl) ⟨hcb, hnm, hts _ (am_gw_at hinst rfl)⟩ hpre rfl (by rw [List.length_map]; exact hlen) (hsz.trans hml.symm) hstk hrm hd ⟨hc, hs⟩
                exact am_goes hrun hS.2.1 kk'
              all_goals first | (rename_i heq; simp only [Prod.mk.injEq] at heq; exfalso; omega) | cases hch
            · cases ha
          · cases ha
        · split at ha
          · split at ha
            · split at ha <;> cases ha
            · cases ha
          · cases ha
      · cases ha
    | _ =>
      exfalso
      simp only [am_ins, am_nx, am_jp, am_br, am_i2, am_l2, am_i1, am_ld, am_ll, am_la, am_si, am_sl, am_sa] at ha
      repeat' split at ha
      all_goals cases ha
  · cases ha
end AMX

/-! THE LAW OUT OF ITS RUN ON THE ABSTRACT MACHINE -/
def am_chSt (k : UInt32) : Bool := decide (Cond.arrayOf (.static (am_sN k).1 (am_sN k).2 "[I") .int ∈ flatC (Jvm.Cond.and given_1 narrow_1)) && decide (Cond.eq (.length (.static (am_sN k).1 (am_sN k).2 "[I")) (.int (Int32.ofNat (am_sA k).length)) ∈ flatC (Jvm.Cond.and given_1 narrow_1)) && (List.range (am_sA k).length).all (fun j => decide (Cond.eq (.elem (.static (am_sN k).1 (am_sN k).2 "[I") (.int (Int32.ofNat j))) (.int ((am_sA k).getD j 0)) ∈ flatC (Jvm.Cond.and given_1 narrow_1))) && decide (Cond.laysStatic (am_sN k).1 (am_sN k).2 "[I" ∈ lw_tbl) && decide (Cond.initialized (am_sN k).1 ∈ lw_tbl)
theorem am_chSt1 : am_chSt 1 = true := by decide +kernel
theorem am_chSt2 : am_chSt 2 = true := by decide +kernel
theorem am_chSt3 : am_chSt 3 = true := by decide +kernel
theorem am_chSt4 : am_chSt 4 = true := by decide +kernel
theorem am_chSt5 : am_chSt 5 = true := by decide +kernel
theorem am_u6 (k : UInt32) (h : k ≤ 5) : k = 0 ∨ k = 1 ∨ k = 2 ∨ k = 3 ∨ k = 4 ∨ k = 5 := by
  have h1 : k.toNat ≤ 5 := h
  have key : ∀ n : UInt32, k.toNat = n.toNat → k = n := fun n q => UInt32.toNat_inj.mp q
  rcases (by omega : k.toNat = 0 ∨ k.toNat = 1 ∨ k.toNat = 2 ∨ k.toNat = 3 ∨ k.toNat = 4 ∨ k.toNat = 5) with q | q | q | q | q | q
  · exact Or.inl (key 0 q)
  · exact Or.inr (Or.inl (key 1 q))
  · exact Or.inr (Or.inr (Or.inl (key 2 q)))
  · exact Or.inr (Or.inr (Or.inr (Or.inl (key 3 q))))
  · exact Or.inr (Or.inr (Or.inr (Or.inr (Or.inl (key 4 q)))))
  · exact Or.inr (Or.inr (Or.inr (Or.inr (Or.inr (key 5 q)))))
theorem am_stat {s : State} {b : Nat} {A : Nat → Prop} {k : UInt32} (hch : am_chSt k = true) (hl : (am_sA k).length < 1000) (hts : ∀ w ∈ lw_tbl, w.before #[Value.ref b] s = true) (hgv : (Jvm.Cond.and given_1 narrow_1).before #[Value.ref b] s = true) (hA : ∀ a : Nat, a < s.heap.size → ¬ A a) :
    ∃ t : Nat, va_T .int t (am_sA k).length (fun j => .int ((am_sA k).getD j 0)) A s s.heap ∧ va_Z (am_sN k).1 (am_sN k).2 "[I" (.ref t) A s s.heap := by
  unfold am_chSt at hch
  simp only [Bool.and_eq_true, decide_eq_true_eq] at hch
  obtain ⟨⟨⟨⟨h1, h2⟩, h3⟩, h4⟩, h5⟩ := hch
  have hfl := flat_of_before _ hgv
  obtain ⟨t, ht, hT⟩ := va_Tof (N := (am_sA k).length) (f := fun j => .int ((am_sA k).getD j 0)) (A := A) (by omega) (hfl _ h1) (va_eqt (hfl _ h2)) (fun j hj => by
    have := List.all_eq_true.mp h3 j (List.mem_range.mpr hj)
    simp only [decide_eq_true_eq] at this
    exact va_eqt (hfl _ this)) hA
  exact ⟨t, hT, va_Zof (hts _ h4) (hts _ h5) ht hA⟩
set_option maxRecDepth 100000 in
theorem am_inst_b : vwCl.all (fun C => decide (Cond.instantiable C.1 C.2.2 ∈ lw_tbl)) = true := by decide +kernel
theorem am_aoS : Cond.arrayOver (.object "SoupCourt$Shelf") ∈ lw_tbl := by decide +kernel
theorem am_aoP : Cond.arrayOver (.object "SoupCourt$Pot") ∈ lw_tbl := by decide +kernel
theorem am_arrT {s : State} {args : Array Value} {ty : FieldType} (hp : ∀ C, ty ≠ .object C) (h : (Cond.arrayClass ty).before args s = true) : ∃ cA, ArrOfT s cA ty ∧ va_RA s cA ty := by
  obtain ⟨c, k, comp, h1, h2, h3⟩ := Cond.arrayClass_spec (show (Cond.arrayClass ty).holds args s none s [] = true from h)
  refine ⟨c, fun n z => ⟨fun k h => (by cases h), k, h2, comp, h3⟩, ?_⟩
  cases ty <;> first | exact h1 | exact absurd rfl (hp _)
theorem am_arrR {s : State} {args : Array Value} {C : String} (h : (Cond.arrayOver (.object C)).before args s = true) : ∃ cA, ArrOfT s cA (.object C) ∧ va_RA s cA (.object C) := by
  obtain ⟨comp, c, k, h1, h2, h3, h4, h5⟩ := Cond.arrayOver_spec h
  exact ⟨c, fun n z => ⟨fun k h => (by cases h), k, h3, comp, h4⟩, k, comp, h3, h4, h1, h5⟩
set_option maxHeartbeats 4000000 in
theorem am_start {p : Program} {e : Env} {s : State} {m : MethodId} {below : List Frame} {meth : Method} {c : Code} (l : Launch) {b L : Nat} {xs : Nat → Int32} (hL : L ≤ 3072) (C0 : lw_At p s m meth c b L xs)
    (hrun : ∃ (d : Nat) (w' : am_W), d ≤ 200 ∧ am_EV (L, xs) d mL_law 0 [.float 0, .retAddr 0, .retAddr 0, .retAddr 0] [] (0, 0, fun _ => .inr (1000, [])) = some (some (.int 1), w') ∧ w'.1 ≤ 600000 ∧ w'.2.1 ≤ 7302250) :
    W p l e room_1 s m #[Value.ref b] below meth c s.heap [] 0 0 (lw_Z below #[Value.ref b] s) (entryFrame m ([Value.ref b] : List Value).toArray 4) := by
  obtain ⟨hx, hb, hr, hml, hown, hts, hX, hbl, hlocks, hgv⟩ := C0
  obtain ⟨d, w', hd, hev, hc1, hc2⟩ := hrun
  obtain ⟨N, hlp⟩ := am_EV_iff.mp hev
  have hA : ∀ a : Nat, a < s.heap.size → ¬ am_A s.heap.size a := fun a h q => absurd h (Nat.not_lt.mpr q)
  have hgw : ∀ w ∈ am_gw, w.before #[Value.ref b] s = true := fun w hw => hts w (List.mem_filter.mp hw).1
  -- classes
  have hcls : ∀ ci : Nat, ∃ q : ClassId × (Nat → Nat), ∀ C, vwCl[ci]? = some C → u_Kn s C.1 C.2.1 C.2.2 q.1 q.2 := by
    intro ci
    cases hC : vwCl[ci]? with
    | none => exact ⟨(0, fun _ => 0), fun C h => by cases h⟩
    | some C =>
      have h1 := List.all_eq_true.mp am_inst_b C (List.mem_of_getElem? hC)
      simp only [decide_eq_true_eq] at h1
      obtain ⟨cC, iS, hK⟩ := u_known (C := C.1) (T := C.2.1) (N := C.2.2) hgw (am_lays_in hC) (hts _ h1)
      exact ⟨(cC, iS), fun C' h => by cases h; exact hK⟩
  -- arrays
  obtain ⟨c0, h0⟩ := am_arrT (ty := .int) (fun _ q => by cases q) (hgw _ am_arI)
  obtain ⟨c1, h1⟩ := am_arrT (ty := .long) (fun _ q => by cases q) (hgw _ am_arJ)
  obtain ⟨c2, h2⟩ := am_arrT (ty := .char) (fun _ q => by cases q) (hgw _ am_arC)
  obtain ⟨c3, h3⟩ := am_arrR (hts _ am_aoS)
  obtain ⟨c4, h4⟩ := am_arrR (hts _ am_aoP)
  -- statics
  obtain ⟨t1, hT1, hZ1⟩ := am_stat (A := am_A s.heap.size) am_chSt1 (by decide) hts hgv hA
  obtain ⟨t2, hT2, hZ2⟩ := am_stat (A := am_A s.heap.size) am_chSt2 (by decide) hts hgv hA
  obtain ⟨t3, hT3, hZ3⟩ := am_stat (A := am_A s.heap.size) am_chSt3 (by decide) hts hgv hA
  obtain ⟨t4, hT4, hZ4⟩ := am_stat (A := am_A s.heap.size) am_chSt4 (by decide) hts hgv hA
  obtain ⟨t5, hT5, hZ5⟩ := am_stat (A := am_A s.heap.size) am_chSt5 (by decide) hts hgv hA
  have hT0 : va_T .int b L (fun j => .int (xs j)) (am_A s.heap.size) s s.heap := by
    obtain ⟨scr, g1, g2, g3, g4, g5⟩ := hX
    exact ⟨scr, g1, g2, g3, by omega, (by rw [g4] <;> rfl), g5, hA b hbl⟩
  let oa : UInt32 → Nat := fun k => if k = 0 then b else if k = 1 then t1 else if k = 2 then t2 else if k = 3 then t3 else if k = 4 then t4 else t5
  let cT : Nat → ClassId := fun k => if k = 0 then c0 else if k = 1 then c1 else if k = 2 then c2 else if k = 3 then c3 else c4
  let D : va_G := (fun ci => (Classical.choose (hcls ci)).1, fun ci => (Classical.choose (hcls ci)).2)
  have hE : am_E D cT s.heap.size oa (L, xs) s s.heap := by
    refine ⟨⟨fun ci C hC => Classical.choose_spec (hcls ci) C hC, fun k q hk => ?_⟩, fun w hw => ?_, ⟨va_AO.of (hts _ am_aoS), va_AO.of (hts _ am_aoP)⟩, fun k hk => ?_, fun k hk1 hk => ?_⟩
    · have hk5 : k < 5 := by
        have := (List.getElem?_eq_some_iff.mp hk).1
        simpa [am_tys] using this
      rcases (by omega : k = 0 ∨ k = 1 ∨ k = 2 ∨ k = 3 ∨ k = 4) with rfl | rfl | rfl | rfl | rfl <;> cases hk
      · exact h0
      · exact h1
      · exact h2
      · exact h3
      · exact h4
    · have hn := (List.mem_filter.mp hw).2
      have hm := hts w (List.mem_filter.mp hw).1
      refine va_Nw.of ?_ hm
      cases w <;> simp only [am_isN] at hn <;> first | rfl | cases hn
    · rcases am_u6 k hk with rfl | rfl | rfl | rfl | rfl | rfl
      · exact hT0
      · exact hT1
      · exact hT2
      · exact hT3
      · exact hT4
      · exact hT5
    · rcases am_u6 k hk with rfl | rfl | rfl | rfl | rfl | rfl
      · exact absurd hk1 (by decide)
      · exact hZ1
      · exact hZ2
      · exact hZ3
      · exact hZ4
      · exact hZ5
  have hCx : am_Cx p s m #[Value.ref b] meth c D cT s.heap.size oa (L, xs) mL_law := ⟨hx, hb, hml, hown, hgw, hr, hlocks, fun h => absurd h (by decide), Nat.le_refl _, hE⟩
  have hH0 : am_H D cT s.heap.size oa (0, 0, fun _ => .inr (1000, [])) s.heap := ⟨fun k q hk => by simp [am_cW] at hk, fun i _ => rfl⟩
  have hent := am_entryL (b0 := s.heap.size) (oa := oa) (as := [.float 0]) (n := 4) (by decide)
  rw [lg_entry_eq]
  have hS : am_Sm s D cT s.heap.size oa mL_law s.heap [] 0 ((lg_sl ([Value.ref b] : List Value) ++ List.replicate (4 - (lg_sl ([Value.ref b] : List Value)).length) Slot.unset).toArray) [.float 0, .retAddr 0, .retAddr 0, .retAddr 0] (0, 0, fun _ => .inr (1000, [])) := ⟨hH0, va_S.rf, hent.1, rfl, rfl⟩
  have hw1 : w'.1 = 0 + w'.1 := by omega
  refine am_simW (Q := lw_Z below #[Value.ref b] s) hCx (am_clMet d) (by show d + 1 ≤ 2048; omega) (by show 300 * (d + 1) ≤ 84000; omega) N hlp hS (fun n1 hn => ?_) (fun n2 hn => ?_) ?_
  · show n1 ≤ 600000
    have : n1 + 0 = 0 + w'.1 := hn
    omega
  · show n2 ≤ 7302250
    have : n2 + 0 = 0 + w'.2.1 := hn
    omega
  · intro H' locs' ls' n1 n2 pc' L' S' e1 e2 hS' ha'
    have e1' : n1 + 0 = 0 + w'.1 := e1
    have e2' : n2 + 0 = 0 + w'.2.1 := e2
    unfold am_act at ha'
    split at ha'
    · rename_i q hdq
      obtain ⟨ins, len⟩ := q
      simp only at ha'
      have hret := (am_shape ha').2
      cases ins with
      | ireturn =>
        simp only [am_ins] at ha'
        split at ha'
        · rename_i x
          split at ha'
          · rename_i hcond
            cases ha'
            obtain ⟨rfl, -⟩ := hcond
            refine va_forget (fun q hq => hS'.2.1.2.2 q hq) ?_
            refine W.widen (k := 600000) (n := 7302250) (by omega) (by omega) ?_
            exact lw_ret hx hb hr hlocks hdq
          · cases ha'
        · cases ha'
      | lreturn => simp only [am_ins] at ha'; (repeat' split at ha') <;> cases ha'
      | areturn => simp only [am_ins] at ha'; (repeat' split at ha') <;> cases ha'
      | return_ => simp only [am_ins] at ha'; (repeat' split at ha') <;> cases ha'
      | _ => cases hret
    · cases ha'

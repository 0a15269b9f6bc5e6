/-! SOUND, 4: what makes cells; arraycopy, Math, Object -/
theorem am_nof_b : (List.range 12).all (fun ci => (List.range (am_N ci)).all (fun k => am_nof (defaultValue (am_ty ci k)))) = true := by decide +kernel
theorem am_dv {b0 : Nat} {oa : UInt32 → Nat} {ty : FieldType} (h : am_nof (defaultValue ty) = true) : am_cv b0 oa (defaultValue ty) = defaultValue ty := by
  cases ty <;> first | rfl | cases h
section AMC
variable {p : Program} {l : Launch} {e : Env} {R : Room} {s : State} {m : MethodId} {args : Array Value} {below : List Frame} {meth : Method} {c : Code} {H : Heap} {locs : List Loc} {cells slots : Nat} {Q : State → Prop} {ls : Array Slot}
variable {D : va_G} {cT : Nat → ClassId} {b0 : Nat} {oa : UInt32 → Nat} {X : Nat × (Nat → Int32)} {M : am_M}
variable {pc len : Nat} {L S : List Value} {w : am_W} {pc' : Nat} {L' S' : List Value} {w' : am_W}
theorem am_push (hS : am_Sm s D cT b0 oa M H locs cells ls L w) (hz : H.size = b0 + w.1) {H1 : Heap} {n : Nat} {cl : am_C} (z1 : H1.size = H.size + 1) (o1 : ∀ q, q < H.size → H1[q]? = H[q]?) (ha : va_at D vwCl (b0 + w.1, am_cE cT b0 oa cl) H1) : am_Sm s D cT b0 oa M H1 locs (cells + 1) ls L (am_al w n cl) := by
  have hk : ∀ (k : Nat) (x : Nat × va_E), (am_cW cT b0 oa w)[k]? = some x → H1[x.1]? = H[x.1]? := fun k x hx => o1 x.1 ((hS.1.1 k x hx).lt)
  refine ⟨am_Hal hS.1 ((hS.1.1.kept hk).app (fun k x hx => ?_)), ⟨Nat.le_trans hS.2.1.1 (by omega), fun x h1 h2 => (o1 x (Nat.lt_of_lt_of_le h1 hS.2.1.1)).trans (hS.2.1.2.1 x h1 h2), hS.2.1.2.2⟩, hS.2.2.1, hS.2.2.2.1, ?_⟩
  · have hz : k < 1 := (List.getElem?_eq_some_iff.mp hx).1
    rw [show k = 0 by omega] at hx
    cases hx
    exact ha
  · have := hS.2.2.2.2
    show s.heap.size + (cells + 1) = b0 + (w.1 + 1)
    omega
theorem am_newW (hC : am_Cx p s m args meth c D cT b0 oa X M) (hS : am_Sm s D cT b0 oa M H locs cells ls L w) {i : Nat} {q : Nat × Nat × Nat × Nat} (hq : am_lq M.1 i am_tC = some q) (hdg : decode M.2.2.1 pc = .ok (.new i, 3)) {rest : List Value} (hcells : cells + 1 ≤ R.cells) (hslots : slots + am_N q.1 ≤ R.slots)
    (kk : ∀ (H1 : Heap), am_Sm s D cT b0 oa M H1 locs (cells + 1) ls L (am_al w (am_N q.1) (am_new q.1)) → W p l e R s m args below meth c H1 locs (cells + 1) (slots + am_N q.1) Q (F0 m (pc + 3) ls (.ref (b0 + w.1) :: rest))) : W p l e R s m args below meth c H locs cells slots Q (F0 m pc ls rest) := by
  obtain ⟨hx, hb, hml, hown, hts, hret, hlocks, hname, hb0, hE⟩ := hC
  obtain ⟨C, hCl, h1, h2, h3, h4⟩ := am_tC_spec hq
  refine am_sz fun hu => ?_
  have hz := am_Sz hS.1 hS.2.1 hS.2.2.2.2 hb0 hu
  have hKn := hE.1.1 q.1 _ hCl
  rw [← h4] at hslots kk
  refine W.newcK hx hb hown (hts _ h1) (hts _ h2) (hts _ h3) rfl hdg hcells hslots hKn.2.1 rfl fun H1 kC hkC e1 z1 o1 => ?_
  have hc12 : q.1 < 12 := by
    have := (List.getElem?_eq_some_iff.mp hCl).1
    simpa using this
  have key : W p l e R s m args below meth c H1 locs (cells + 1) (slots + C.2.2) Q (F0 m (pc + 3) ls (.ref (b0 + w.1) :: rest)) := by
    refine kk H1 ?_
    refine am_push hS hz z1 o1 ?_
    refine ⟨_, hCl, ?_⟩
    rw [hz] at e1
    refine (u_born (am_ty q.1) hts (am_lays_in hCl) hKn hkC e1 (am_typ hCl).1).to (fun k hk => ?_)
    have hnf : am_nof (defaultValue (am_ty q.1 k)) = true := by
      have a1 := List.all_eq_true.mp am_nof_b q.1 (List.mem_range.mpr hc12)
      exact List.all_eq_true.mp a1 k (List.mem_range.mpr (by rw [← h4]; exact hk))
    have hk' : k < am_N q.1 := by rw [← h4]; exact hk
    simp [vp_V, hk', am_dv hnf]
  rw [hz]
  exact key
theorem am_newaW (hC : am_Cx p s m args meth c D cT b0 oa X M) (hS : am_Sm s D cT b0 oa M H locs cells ls L w) {a : ArrayType} {t : Nat} {n : Int32} {cl : am_C} (ht : (a = .int ∧ t = 0 ∧ cl = .inl (0, n.toNatClampNeg, .inl (fun _ => 0))) ∨ (a = .long ∧ t = 1 ∧ cl = .inl (1, n.toNatClampNeg, .inr (.inl (fun _ => 0)))) ∨ (a = .char ∧ t = 2 ∧ cl = .inl (2, n.toNatClampNeg, .inl (fun _ => 0)))) (hn : ¬ n < 0) (hn2 : n.toNatClampNeg ≤ 1000) (hdg : decode M.2.2.1 pc = .ok (.newarray a, 2)) {rest : List Value} (hcells : cells + 1 ≤ R.cells) (hslots : slots + n.toNatClampNeg ≤ R.slots)
    (harr : Cond.arrayClass (newarray.typeOf a) ∈ am_gw)
    (kk : ∀ (H1 : Heap), am_Sm s D cT b0 oa M H1 locs (cells + 1) ls L (am_al w n.toNatClampNeg cl) → W p l e R s m args below meth c H1 locs (cells + 1) (slots + n.toNatClampNeg) Q (F0 m (pc + 2) ls (.ref (b0 + w.1) :: rest))) : W p l e R s m args below meth c H locs cells slots Q (F0 m pc ls (.int n :: rest)) := by
  obtain ⟨hx, hb, hml, hown, hts, hret, hlocks, hname, hb0, hE⟩ := hC
  refine am_sz fun hu => ?_
  have hz := am_Sz hS.1 hS.2.1 hS.2.2.2.2 hb0 hu
  have hbytes : n.toNatClampNeg * componentBytes (newarray.typeOf a) ≤ 536870912 := by
    have : componentBytes (newarray.typeOf a) ≤ 8 := by cases a <;> decide
    calc n.toNatClampNeg * componentBytes (newarray.typeOf a) ≤ 1000 * 8 := Nat.mul_le_mul hn2 this
      _ ≤ 536870912 := by decide
  refine va_newaK (h := b0 + w.1) hx hb (hts _ harr) rfl hdg rfl hn rfl hbytes hcells hslots hz fun H1 cA e1 z1 o1 hAr hNm => ?_
  refine kk H1 ?_
  refine am_push hS hz (by rw [z1, hz]) (fun q hq => o1 q (by omega)) ?_
  rcases ht with ⟨rfl, rfl, rfl⟩ | ⟨rfl, rfl, rfl⟩ | ⟨rfl, rfl, rfl⟩
  · have hT : s.vm.findClass ("[" ++ (FieldType.int).toString) = some (cT 0) := (hE.1.2 0 _ rfl).2
    have : cA = cT 0 := Option.some.inj (hNm.symm.trans hT)
    subst this
    exact e1
  · have hT : s.vm.findClass ("[" ++ (FieldType.long).toString) = some (cT 1) := (hE.1.2 1 _ rfl).2
    have : cA = cT 1 := Option.some.inj (hNm.symm.trans hT)
    subst this
    exact e1
  · have hT : s.vm.findClass ("[" ++ (FieldType.char).toString) = some (cT 2) := (hE.1.2 2 _ rfl).2
    have : cA = cT 2 := Option.some.inj (hNm.symm.trans hT)
    subst this
    exact e1
theorem am_newqW (hC : am_Cx p s m args meth c D cT b0 oa X M) (hS : am_Sm s D cT b0 oa M H locs cells ls L w) {i : Nat} {q : Nat × Nat × Nat × Nat} (hq : am_lq M.1 i am_tC = some q) {t : Nat} (ht : (q.1 = 8 ∧ t = 3) ∨ (q.1 = 6 ∧ t = 4)) {n : Int32} (hn : ¬ n < 0) (hn2 : n.toNatClampNeg ≤ 1000) (hdg : decode M.2.2.1 pc = .ok (.anewarray i, 3)) {rest : List Value} (hcells : cells + 1 ≤ R.cells) (hslots : slots + n.toNatClampNeg ≤ R.slots)
    (kk : ∀ (H1 : Heap), am_Sm s D cT b0 oa M H1 locs (cells + 1) ls L (am_al w n.toNatClampNeg (.inl (t, n.toNatClampNeg, .inr (.inr (.inr (.inr (fun _ => none))))))) → W p l e R s m args below meth c H1 locs (cells + 1) (slots + n.toNatClampNeg) Q (F0 m (pc + 3) ls (.ref (b0 + w.1) :: rest))) : W p l e R s m args below meth c H locs cells slots Q (F0 m pc ls (.int n :: rest)) := by
  obtain ⟨hx, hb, hml, hown, hts, hret, hlocks, hname, hb0, hE⟩ := hC
  obtain ⟨C, hCl, h1, h2, h3, h4⟩ := am_tC_spec hq
  refine am_sz fun hu => ?_
  have hz := am_Sz hS.1 hS.2.1 hS.2.2.2.2 hb0 hu
  have hbytes : n.toNatClampNeg * 4 ≤ 536870912 := by omega
  have key : ∀ (CN : String), C.1 = CN → va_AO CN s → va_RA s (cT t) (.object CN) → W p l e R s m args below meth c H locs cells slots Q (F0 m pc ls (.int n :: rest)) := by
    intro CN hCN hAO hRA
    rw [hCN] at h1
    refine W.anew hx hb hown (hts _ h1) (va_AO.use hAO) rfl hdg rfl hn hbytes hcells hslots fun cA kA comp f1 f2 f3 f4 => ?_
    generalize hH1 : H.push ({ cls := cA, slots := Array.replicate n.toNatClampNeg .null, vm := .none } : Cell) = H1
    have z1 : H1.size = H.size + 1 := by rw [← hH1, Array.size_push]
    have e1 : H1[H.size]? = some (arrV cA n.toNatClampNeg (fun _ => .null)) := by rw [← hH1, Array.getElem?_push_size, ← arrV_new]
    have o1 : ∀ q : Nat, q < H.size → H1[q]? = H[q]? := fun q hq => by rw [← hH1, Array.getElem?_push, if_neg (Nat.ne_of_lt hq)]
    obtain ⟨kA', comp', g1, g2, g3, g4⟩ := hRA
    have : cA = cT t := Option.some.inj (f1.symm.trans g4)
    subst this
    rw [hz] at e1
    have := kk H1 (am_push hS hz z1 o1 e1)
    rw [hz]
    exact this
  rcases ht with ⟨hq1, rfl⟩ | ⟨hq1, rfl⟩
  · rw [hq1] at hCl
    cases hCl
    exact key _ rfl hE.2.2.1.1 (hE.1.2 3 _ rfl).2
  · rw [hq1] at hCl
    cases hCl
    exact key _ rfl hE.2.2.1.2 (hE.1.2 4 _ rfl).2
end AMC

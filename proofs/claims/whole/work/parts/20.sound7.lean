/-! SOUND, 7: any step that isn't a call of ours -/
section AMQ
variable {p : Program} {l : Launch} {e : Env} {R : Room} {s : State} {m : MethodId} {args : Array Value} {below : List Frame} {meth : Method} {c : Code} {H : Heap} {locs : List Loc} {cells slots : Nat} {Q : State → Prop} {ls : Array Slot}
variable {D : va_G} {cT : Nat → ClassId} {b0 : Nat} {oa : UInt32 → Nat} {X : Nat × (Nat → Int32)} {M : am_M}
variable {pc len : Nat} {L S : List Value} {w : am_W} {pc' : Nat} {L' S' : List Value} {w' : am_W}
set_option maxHeartbeats 4000000 in
theorem am_nextW (hC : am_Cx p s m args meth c D cT b0 oa X M) (hS : am_Sm s D cT b0 oa M H locs cells ls L w) (ha : am_act X M pc L S w = some (.inr (.inl (pc', L', S', w')))) (hR : am_RM R cells slots w w') (kk : am_KK p l e R s m args below meth c Q D cT b0 oa M cells slots w pc' L' S' w') : W p l e R s m args below meth c H locs cells slots Q (F0 m pc ls (S.map (am_cv b0 oa))) := by
  unfold am_act at ha
  split at ha
  · rename_i q hd
    obtain ⟨ins, len⟩ := q
    simp only at ha
    have hx := hC.1
    have hb := hC.2.1
    have hown := hC.2.2.2.1
    have hts := hC.2.2.2.2.1
    cases ins with
    | iconst n =>
      simp only [am_ins] at ha
      obtain ⟨rfl, rfl, rfl, rfl, rfl⟩ := am_nx_some ha
      exact lv_iconst hx hb hd rfl (am_KK0 kk hS)
    | bipush n =>
      simp only [am_ins] at ha
      obtain ⟨rfl, rfl, rfl, rfl, rfl⟩ := am_nx_some ha
      exact lv_bipush hx hb hd rfl (am_KK0 kk hS)
    | sipush n =>
      simp only [am_ins] at ha
      obtain ⟨rfl, rfl, rfl, rfl, rfl⟩ := am_nx_some ha
      exact lv_sipush hx hb hd rfl (am_KK0 kk hS)
    | lconst n =>
      simp only [am_ins] at ha
      obtain ⟨rfl, rfl, rfl, rfl, rfl⟩ := am_nx_some ha
      exact lv_lconst hx hb hd rfl (am_KK0 kk hS)
    | ldc i =>
      simp only [am_ins] at ha
      split at ha
      · rename_i q hq
        obtain ⟨rfl, rfl, rfl, rfl, rfl⟩ := am_nx_some ha
        exact lv_ldc hx hb hown (hts _ (am_tI_spec hq)) hd (am_KK0 kk hS)
      · cases ha
    | ldc_w i =>
      simp only [am_ins] at ha
      split at ha
      · rename_i q hq
        obtain ⟨rfl, rfl, rfl, rfl, rfl⟩ := am_nx_some ha
        exact lv_ldcw hx hb hown (hts _ (am_tI_spec hq)) hd (am_KK0 kk hS)
      · cases ha
    | ldc2_w i =>
      simp only [am_ins] at ha
      split at ha
      · rename_i q hq
        obtain ⟨rfl, rfl, rfl, rfl, rfl⟩ := am_nx_some ha
        exact lv_ldc2 hx hb hown (hts _ (am_tJ_spec hq)) hd (am_KK0 kk hS)
      · cases ha
    | iload i =>
      simp only [am_ins] at ha
      exact am_ldW hC hS (Or.inl ⟨rfl, rfl⟩) hd ha kk
    | lload i =>
      simp only [am_ins] at ha
      exact am_llW hC hS (Or.inl ⟨rfl, rfl⟩) hd ha kk
    | aload i =>
      simp only [am_ins] at ha
      exact am_laW hC hS (Or.inl ⟨rfl, rfl⟩) hd ha kk
    | istore i =>
      simp only [am_ins] at ha
      exact am_siW hC hS (Or.inl ⟨rfl, rfl⟩) hd ha kk
    | astore i =>
      simp only [am_ins] at ha
      exact am_saW hC hS (Or.inl ⟨rfl, rfl⟩) hd ha kk
    | iload_n i =>
      simp only [am_ins] at ha
      exact am_ldW hC hS (Or.inr ⟨i, rfl, rfl, rfl⟩) hd ha kk
    | lload_n i =>
      simp only [am_ins] at ha
      exact am_llW hC hS (Or.inr ⟨i, rfl, rfl, rfl⟩) hd ha kk
    | aload_n i =>
      simp only [am_ins] at ha
      exact am_laW hC hS (Or.inr ⟨i, rfl, rfl, rfl⟩) hd ha kk
    | istore_n i =>
      simp only [am_ins] at ha
      exact am_siW hC hS (Or.inr ⟨i, rfl, rfl, rfl⟩) hd ha kk
    | astore_n i =>
      simp only [am_ins] at ha
      exact am_saW hC hS (Or.inr ⟨i, rfl, rfl, rfl⟩) hd ha kk
    | lstore i =>
      simp only [am_ins] at ha
      exact am_slW hC hS hd ha kk
    | iinc i n =>
      simp only [am_ins] at ha
      split at ha
      · rename_i x hx'
        obtain ⟨rfl, rfl, rfl, rfl, rfl⟩ := am_nx_some ha
        have hlt : i < L.length := (List.getElem?_eq_some_iff.mp hx').1
        have hm : (i, Value.int x) ∈ am_lo b0 oa L := am_lo_mem.mpr ⟨_, hx', rfl, rfl⟩
        obtain ⟨k, hk⟩ := List.getElem?_of_mem hm
        exact lv_iinc hx hb hd hS.2.2.1 hk rfl (by rw [← hS.2.2.2.1]; exact hlt) rfl (fun ls' hl => kk H locs ls' cells slots rfl rfl (am_stepL (lv' := []) hS hlt (fun _ z => (by cases z)) hl))
      · cases ha
    | iadd =>
      simp only [am_ins] at ha
      unfold am_i2 at ha
      split at ha
      · obtain ⟨rfl, rfl, rfl, rfl, rfl⟩ := am_nx_some ha
        exact lv_iadd hx hb hd (am_KK0 kk hS)
      · cases ha
    | isub =>
      simp only [am_ins] at ha
      unfold am_i2 at ha
      split at ha
      · obtain ⟨rfl, rfl, rfl, rfl, rfl⟩ := am_nx_some ha
        exact lv_isub hx hb hd (am_KK0 kk hS)
      · cases ha
    | imul =>
      simp only [am_ins] at ha
      unfold am_i2 at ha
      split at ha
      · obtain ⟨rfl, rfl, rfl, rfl, rfl⟩ := am_nx_some ha
        exact lv_imul hx hb hd (am_KK0 kk hS)
      · cases ha
    | iand =>
      simp only [am_ins] at ha
      unfold am_i2 at ha
      split at ha
      · obtain ⟨rfl, rfl, rfl, rfl, rfl⟩ := am_nx_some ha
        exact lv_iand hx hb hd (am_KK0 kk hS)
      · cases ha
    | ior =>
      simp only [am_ins] at ha
      unfold am_i2 at ha
      split at ha
      · obtain ⟨rfl, rfl, rfl, rfl, rfl⟩ := am_nx_some ha
        exact lv_ior hx hb hd (am_KK0 kk hS)
      · cases ha
    | ixor =>
      simp only [am_ins] at ha
      unfold am_i2 at ha
      split at ha
      · obtain ⟨rfl, rfl, rfl, rfl, rfl⟩ := am_nx_some ha
        exact lv_ixor hx hb hd (am_KK0 kk hS)
      · cases ha
    | ishl =>
      simp only [am_ins] at ha
      unfold am_i2 at ha
      split at ha
      · obtain ⟨rfl, rfl, rfl, rfl, rfl⟩ := am_nx_some ha
        exact lv_ishl hx hb hd (am_KK0 kk hS)
      · cases ha
    | ishr =>
      simp only [am_ins] at ha
      unfold am_i2 at ha
      split at ha
      · obtain ⟨rfl, rfl, rfl, rfl, rfl⟩ := am_nx_some ha
        exact lv_ishr hx hb hd (am_KK0 kk hS)
      · cases ha
    | iushr =>
      simp only [am_ins] at ha
      unfold am_i2 at ha
      split at ha
      · obtain ⟨rfl, rfl, rfl, rfl, rfl⟩ := am_nx_some ha
        exact lv_iushr hx hb hd rfl (am_KK0 kk hS)
      · cases ha
    | idiv =>
      simp only [am_ins] at ha
      split at ha
      · split at ha
        · cases ha
        · rename_i hne
          obtain ⟨rfl, rfl, rfl, rfl, rfl⟩ := am_nx_some ha
          exact lv_idiv hx hb hd hne (am_KK0 kk hS)
      · cases ha
    | irem =>
      simp only [am_ins] at ha
      split at ha
      · split at ha
        · cases ha
        · rename_i hne
          obtain ⟨rfl, rfl, rfl, rfl, rfl⟩ := am_nx_some ha
          exact lv_irem hx hb hd hne (am_KK0 kk hS)
      · cases ha
    | ineg =>
      simp only [am_ins] at ha
      unfold am_i1 at ha
      split at ha
      · obtain ⟨rfl, rfl, rfl, rfl, rfl⟩ := am_nx_some ha
        exact lv_ineg hx hb hd (am_KK0 kk hS)
      · cases ha
    | i2l =>
      simp only [am_ins] at ha
      unfold am_i1 at ha
      split at ha
      · obtain ⟨rfl, rfl, rfl, rfl, rfl⟩ := am_nx_some ha
        exact lv_i2l hx hb hd rfl (am_KK0 kk hS)
      · cases ha
    | i2b =>
      simp only [am_ins] at ha
      unfold am_i1 at ha
      split at ha
      · obtain ⟨rfl, rfl, rfl, rfl, rfl⟩ := am_nx_some ha
        exact lv_i2b hx hb hd rfl (am_KK0 kk hS)
      · cases ha
    | i2s =>
      simp only [am_ins] at ha
      unfold am_i1 at ha
      split at ha
      · obtain ⟨rfl, rfl, rfl, rfl, rfl⟩ := am_nx_some ha
        exact lv_i2s hx hb hd rfl (am_KK0 kk hS)
      · cases ha
    | l2i =>
      simp only [am_ins] at ha
      split at ha
      · obtain ⟨rfl, rfl, rfl, rfl, rfl⟩ := am_nx_some ha
        exact lv_l2i hx hb hd rfl (am_KK0 kk hS)
      · cases ha
    | ladd =>
      simp only [am_ins] at ha
      unfold am_l2 at ha
      split at ha
      · obtain ⟨rfl, rfl, rfl, rfl, rfl⟩ := am_nx_some ha
        exact lv_ladd hx hb hd (am_KK0 kk hS)
      · cases ha
    | lmul =>
      simp only [am_ins] at ha
      unfold am_l2 at ha
      split at ha
      · obtain ⟨rfl, rfl, rfl, rfl, rfl⟩ := am_nx_some ha
        exact lv_lmul hx hb hd (am_KK0 kk hS)
      · cases ha
    | land =>
      simp only [am_ins] at ha
      unfold am_l2 at ha
      split at ha
      · obtain ⟨rfl, rfl, rfl, rfl, rfl⟩ := am_nx_some ha
        exact lv_land hx hb hd (am_KK0 kk hS)
      · cases ha
    | lor =>
      simp only [am_ins] at ha
      unfold am_l2 at ha
      split at ha
      · obtain ⟨rfl, rfl, rfl, rfl, rfl⟩ := am_nx_some ha
        exact lv_lor hx hb hd (am_KK0 kk hS)
      · cases ha
    | lshl =>
      simp only [am_ins] at ha
      split at ha
      · obtain ⟨rfl, rfl, rfl, rfl, rfl⟩ := am_nx_some ha
        exact lv_lshl hx hb hd rfl (am_KK0 kk hS)
      · cases ha
    | lcmp =>
      simp only [am_ins] at ha
      split at ha
      · obtain ⟨rfl, rfl, rfl, rfl, rfl⟩ := am_nx_some ha
        exact W.lcmp hx hb hd (am_KK0 kk hS)
      · cases ha
    | dup =>
      simp only [am_ins] at ha
      split at ha
      · split at ha
        · rename_i hc
          obtain ⟨rfl, rfl, rfl, rfl, rfl⟩ := am_nx_some ha
          exact lv_dup hx hb hd (by rw [am_cv_cat]; exact hc) (am_KK0 kk hS)
        · cases ha
      · cases ha
    | pop =>
      simp only [am_ins] at ha
      split at ha
      · split at ha
        · rename_i hc
          obtain ⟨rfl, rfl, rfl, rfl, rfl⟩ := am_nx_some ha
          exact lv_pop hx hb hd (by rw [am_cv_cat]; exact hc) (am_KK0 kk hS)
        · cases ha
      · cases ha
    | dup_x1 =>
      simp only [am_ins] at ha
      split at ha
      · split at ha
        · rename_i hc
          obtain ⟨rfl, rfl, rfl, rfl, rfl⟩ := am_nx_some ha
          exact lv_dup_x1 hx hb hd (by rw [am_cv_cat]; exact hc.1) (by rw [am_cv_cat]; exact hc.2) (am_KK0 kk hS)
        · cases ha
      · cases ha
    | dup2 =>
      simp only [am_ins] at ha
      split at ha
      · split at ha
        · rename_i hc
          obtain ⟨rfl, rfl, rfl, rfl, rfl⟩ := am_nx_some ha
          exact lv_dup2_11 hx hb hd (by rw [am_cv_cat]; exact hc.1) (by rw [am_cv_cat]; exact hc.2) (am_KK0 kk hS)
        · cases ha
      · cases ha
    | goto off =>
      simp only [am_ins] at ha
      split at ha
      · rename_i hl
        subst hl
        obtain ⟨h1, rfl, rfl, rfl⟩ := am_jp_some ha
        exact lv_goto hx hb hd h1 (am_KK0 kk hS)
      · cases ha
    | ifCond cd off =>
      simp only [am_ins] at ha
      split at ha
      · obtain ⟨rfl, t, h1, h2, h3⟩ := am_brW hS ha kk
        exact am_ifW hC hd h1 h2 h3
      · cases ha
    | if_icmp cd off =>
      simp only [am_ins] at ha
      split at ha
      · obtain ⟨rfl, t, h1, h2, h3⟩ := am_brW hS ha kk
        exact am_icW hC hd h1 h2 h3
      · cases ha
    | tableswitch dflt lo hi offs =>
      simp only [am_ins] at ha
      split at ha
      · split at ha
        · rename_i hr
          obtain ⟨h1, rfl, rfl, rfl⟩ := am_jp_some ha
          exact lv_tableOut hx hb hd hr h1 (am_KK0 kk hS)
        · rename_i hr
          split at ha
          · rename_i off ho
            obtain ⟨h1, rfl, rfl, rfl⟩ := am_jp_some ha
            exact lv_tableIn hx hb hd (fun z => hr (Or.inl z)) (fun z => hr (Or.inr z)) ho h1 (am_KK0 kk hS)
          · cases ha
      · cases ha
    | lookupswitch dflt ps =>
      simp only [am_ins] at ha
      split at ha
      · split at ha
        · rename_i hr
          obtain ⟨h1, rfl, rfl, rfl⟩ := am_jp_some ha
          exact lv_lookup hx hb hd hr rfl h1 (am_KK0 kk hS)
        · cases ha
      · cases ha
    | getfield i =>
      simp only [am_ins] at ha
      split at ha
      · rename_i q r S0 hq
        split at ha
        · rename_i hf
          obtain ⟨rfl, rfl, rfl, rfl, rfl⟩ := am_nx_some ha
          exact am_getW hC hS hq hf hd (am_KK0 kk hS)
        · cases ha
      · cases ha
    | putfield i =>
      simp only [am_ins] at ha
      split at ha
      · rename_i q v r S0 hq
        split at ha
        · rename_i hf
          simp only [Bool.and_eq_true] at hf
          obtain ⟨rfl, rfl, rfl, rfl, rfl⟩ := am_nx_some ha
          exact am_putW hC hS hq hf.1.1 hf.1.2 hf.2 hd (fun H1 locs1 h => kk H1 locs1 ls cells slots rfl rfl h)
        · cases ha
      · cases ha
    | getstatic i =>
      simp only [am_ins] at ha
      split at ha
      · rename_i q hq
        obtain ⟨rfl, rfl, rfl, rfl, rfl⟩ := am_nx_some ha
        obtain ⟨h1, h2, h3⟩ := am_tS_spec hq
        exact va_gets hx hb (hC.2.2.2.2.2.2.2.2.2.2.2.2.2 q.1 h1 h2) hS.2.1 hown (hts _ h3) (fun _ z => z) hd (am_KK0 kk hS)
      · cases ha
    | iaload =>
      simp only [am_ins] at ha
      split at ha
      · split at ha
        · rename_i hf
          obtain ⟨rfl, rfl, rfl, rfl, rfl⟩ := am_nx_some ha
          exact am_ialdW hC hS hf hd (am_KK0 kk hS)
        · cases ha
      · split at ha
        · rename_i hf
          obtain ⟨rfl, rfl, rfl, rfl, rfl⟩ := am_nx_some ha
          exact am_oldW hC hS hf.1 hf.2 hd (am_KK0 kk hS)
        · cases ha
      · cases ha
    | caload =>
      simp only [am_ins] at ha
      split at ha
      · split at ha
        · rename_i hf
          obtain ⟨rfl, rfl, rfl, rfl, rfl⟩ := am_nx_some ha
          exact am_caldW hC hS hf hd (am_KK0 kk hS)
        · cases ha
      · cases ha
    | laload =>
      simp only [am_ins] at ha
      split at ha
      · split at ha
        · rename_i hf
          obtain ⟨rfl, rfl, rfl, rfl, rfl⟩ := am_nx_some ha
          exact am_laldW hC hS hf hd (am_KK0 kk hS)
        · cases ha
      · cases ha
    | aaload =>
      simp only [am_ins] at ha
      split at ha
      · split at ha
        · rename_i hf
          obtain ⟨rfl, rfl, rfl, rfl, rfl⟩ := am_nx_some ha
          exact am_aaldW hC hS hf hd (am_KK0 kk hS)
        · cases ha
      · cases ha
    | iastore =>
      simp only [am_ins] at ha
      split at ha
      · split at ha
        · rename_i hf
          obtain ⟨rfl, rfl, rfl, rfl, rfl⟩ := am_nx_some ha
          exact am_iastW hC hS hf hd (fun H1 locs1 h => kk H1 locs1 ls cells slots rfl rfl h)
        · cases ha
      · cases ha
    | castore =>
      simp only [am_ins] at ha
      split at ha
      · split at ha
        · rename_i hf
          obtain ⟨rfl, rfl, rfl, rfl, rfl⟩ := am_nx_some ha
          exact am_castW hC hS hf hd (fun H1 locs1 h => kk H1 locs1 ls cells slots rfl rfl h)
        · cases ha
      · cases ha
    | lastore =>
      simp only [am_ins] at ha
      split at ha
      · split at ha
        · rename_i hf
          obtain ⟨rfl, rfl, rfl, rfl, rfl⟩ := am_nx_some ha
          exact am_lastW hC hS hf hd (fun H1 locs1 h => kk H1 locs1 ls cells slots rfl rfl h)
        · cases ha
      · cases ha
    | aastore =>
      simp only [am_ins] at ha
      split at ha
      · split at ha
        · rename_i hf
          simp only [Bool.and_eq_true] at hf
          obtain ⟨rfl, rfl, rfl, rfl, rfl⟩ := am_nx_some ha
          exact am_aastW hC hS hf.1 hf.2 hd (fun H1 locs1 h => kk H1 locs1 ls cells slots rfl rfl h)
        · cases ha
      · cases ha
    | arraylength =>
      simp only [am_ins] at ha
      split at ha
      · split at ha
        · rename_i hf
          obtain ⟨rfl, rfl, rfl, rfl, rfl⟩ := am_nx_some ha
          exact am_alenW hC hS hf hd (am_KK0 kk hS)
        · cases ha
      · split at ha
        · rename_i hf
          obtain ⟨rfl, rfl, rfl, rfl, rfl⟩ := am_nx_some ha
          exact am_olenW hC hS hf hd (am_KK0 kk hS)
        · cases ha
      · cases ha
    | new i =>
      simp only [am_ins] at ha
      split at ha
      · rename_i q hq
        obtain ⟨rfl, rfl, rfl, rfl, rfl⟩ := am_nx_some ha
        exact am_newW hC hS hq hd (hR.1 (cells + 1) (by simp only [am_al]; omega)) (hR.2.1 (slots + am_N q.1) (by simp only [am_al]; omega)) (fun H1 h => kk H1 locs ls (cells + 1) (slots + am_N q.1) (by simp only [am_al]; omega) (by simp only [am_al]; omega) h)
      · cases ha
    | newarray a =>
      simp only [am_ins] at ha
      split at ha
      · rename_i n S0
        split at ha
        · cases ha
        · rename_i hn
          have hn1 : ¬ n < 0 := fun z => hn (Or.inl z)
          have hn2 : n.toNatClampNeg ≤ 1000 := Nat.not_lt.mp fun z => hn (Or.inr z)
          split at ha
          · obtain ⟨rfl, rfl, rfl, rfl, rfl⟩ := am_nx_some ha
            exact am_newaW hC hS (Or.inl ⟨rfl, rfl, rfl⟩) hn1 hn2 hd (hR.1 (cells + 1) (by simp only [am_al]; omega)) (hR.2.1 (slots + n.toNatClampNeg) (by simp only [am_al]; omega)) am_arI (fun H1 h => kk H1 locs ls (cells + 1) (slots + n.toNatClampNeg) (by simp only [am_al]; omega) (by simp only [am_al]; omega) h)
          · obtain ⟨rfl, rfl, rfl, rfl, rfl⟩ := am_nx_some ha
            exact am_newaW hC hS (Or.inr (Or.inl ⟨rfl, rfl, rfl⟩)) hn1 hn2 hd (hR.1 (cells + 1) (by simp only [am_al]; omega)) (hR.2.1 (slots + n.toNatClampNeg) (by simp only [am_al]; omega)) am_arJ (fun H1 h => kk H1 locs ls (cells + 1) (slots + n.toNatClampNeg) (by simp only [am_al]; omega) (by simp only [am_al]; omega) h)
          · obtain ⟨rfl, rfl, rfl, rfl, rfl⟩ := am_nx_some ha
            exact am_newaW hC hS (Or.inr (Or.inr ⟨rfl, rfl, rfl⟩)) hn1 hn2 hd (hR.1 (cells + 1) (by simp only [am_al]; omega)) (hR.2.1 (slots + n.toNatClampNeg) (by simp only [am_al]; omega)) am_arC (fun H1 h => kk H1 locs ls (cells + 1) (slots + n.toNatClampNeg) (by simp only [am_al]; omega) (by simp only [am_al]; omega) h)
          · cases ha
      · cases ha
    | anewarray i =>
      simp only [am_ins] at ha
      split at ha
      · rename_i q n S0 hq
        split at ha
        · cases ha
        · rename_i hn
          have hn1 : ¬ n < 0 := fun z => hn (Or.inl z)
          have hn2 : n.toNatClampNeg ≤ 1000 := Nat.not_lt.mp fun z => hn (Or.inr z)
          split at ha
          · rename_i h8
            obtain ⟨rfl, rfl, rfl, rfl, rfl⟩ := am_nx_some ha
            exact am_newqW hC hS hq (Or.inl ⟨h8, rfl⟩) hn1 hn2 hd (hR.1 (cells + 1) (by simp only [am_al]; omega)) (hR.2.1 (slots + n.toNatClampNeg) (by simp only [am_al]; omega)) (fun H1 h => kk H1 locs ls (cells + 1) (slots + n.toNatClampNeg) (by simp only [am_al]; omega) (by simp only [am_al]; omega) h)
          · split at ha
            · rename_i h6
              obtain ⟨rfl, rfl, rfl, rfl, rfl⟩ := am_nx_some ha
              exact am_newqW hC hS hq (Or.inr ⟨h6, rfl⟩) hn1 hn2 hd (hR.1 (cells + 1) (by simp only [am_al]; omega)) (hR.2.1 (slots + n.toNatClampNeg) (by simp only [am_al]; omega)) (fun H1 h => kk H1 locs ls (cells + 1) (slots + n.toNatClampNeg) (by simp only [am_al]; omega) (by simp only [am_al]; omega) h)
            · cases ha
      · cases ha
    | invokestatic i =>
      simp only [am_ins] at ha
      split at ha
      · rename_i q hq
        split at ha
        · split at ha
          · split at ha <;> cases ha
          · cases ha
        · split at ha
          · rename_i hk
            split at ha
            · split at ha
              · rename_i cl hcp
                split at ha
                · rename_i hl
                  obtain ⟨h4, rfl⟩ := hk
                  cases ha
                  exact am_cpW hC hS hq h4 hd hcp hl hR.2.2.1 hR.2.2.2 (fun H1 locs1 h => kk H1 locs1 ls cells slots rfl rfl h)
                · cases ha
              · cases ha
            · cases ha
          · split at ha
            · rename_i hk
              split at ha
              · split at ha
                · rename_i hl
                  obtain ⟨h4, rfl⟩ := hk
                  cases ha
                  exact (am_mathW (x := _) (y := _) hC hS hq hd hl hR.2.2.1 hR.2.2.2 (hR.1 cells rfl) (hR.2.1 slots rfl)).1 h4 (am_KK0 kk hS)
                · cases ha
              · cases ha
            · split at ha
              · rename_i hk
                split at ha
                · split at ha
                  · rename_i hl
                    obtain ⟨h4, rfl⟩ := hk
                    cases ha
                    exact (am_mathW (x := _) (y := _) hC hS hq hd hl hR.2.2.1 hR.2.2.2 (hR.1 cells rfl) (hR.2.1 slots rfl)).2.1 h4 (am_KK0 kk hS)
                  · cases ha
                · cases ha
              · split at ha
                · rename_i hk
                  split at ha
                  · split at ha
                    · rename_i hl
                      obtain ⟨h4, rfl⟩ := hk
                      cases ha
                      exact (am_mathW (x := _) (y := 0) hC hS hq hd hl hR.2.2.1 hR.2.2.2 (hR.1 cells rfl) (hR.2.1 slots rfl)).2.2 h4 (am_KK0 kk hS)
                    · cases ha
                  · cases ha
                · cases ha
      · cases ha
    | invokevirtual i =>
      simp only [am_ins] at ha
      split at ha
      · split at ha
        · split at ha
          · split at ha <;> cases ha
          · cases ha
        · cases ha
      · cases ha
    | invokespecial i =>
      simp only [am_ins] at ha
      split at ha
      · rename_i q hq
        split at ha
        · split at ha
          · split at ha <;> cases ha
          · cases ha
        · split at ha
          · rename_i hk
            split at ha
            · split at ha
              · rename_i hl
                obtain ⟨h3, rfl⟩ := hk
                cases ha
                exact am_objW hC hS hq h3 hd hl hR.2.2.1 hR.2.2.2 (am_KK0 kk hS)
              · cases ha
            · cases ha
          · cases ha
      · cases ha
    | ireturn =>
      simp only [am_ins] at ha
      split at ha
      · split at ha <;> cases ha
      · cases ha
    | lreturn =>
      simp only [am_ins] at ha
      split at ha
      · split at ha <;> cases ha
      · cases ha
    | areturn =>
      simp only [am_ins] at ha
      split at ha
      · split at ha <;> cases ha
      · cases ha
    | return_ =>
      simp only [am_ins] at ha
      split at ha <;> cases ha
    | _ => simp only [am_ins] at ha; cases ha
  · cases ha
end AMQ

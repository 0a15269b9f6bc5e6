/-! an equation an opcode -/
section AMO
variable {X : Nat × (Nat → Int32)} {d : Nat} {M : am_M} {pc : Nat} {L S : List Value} {w : am_W}
theorem am_o_iconst {n : Int} {v : Int32} (hd : decode M.2.2.1 pc = .ok (.iconst n, 1)) (hv : Int32.ofInt n = v) : am_EV X d M pc L S w = am_EV X d M (pc + 1) L (.int v :: S) w := am_EV_next (by unfold am_act; rw [hd, ← hv]; rfl)
theorem am_o_bipush {n : Int} {v : Int32} (hd : decode M.2.2.1 pc = .ok (.bipush n, 2)) (hv : (Int8.ofInt n).toInt32 = v) : am_EV X d M pc L S w = am_EV X d M (pc + 2) L (.int v :: S) w := am_EV_next (by unfold am_act; rw [hd, ← hv]; rfl)
theorem am_o_sipush {n : Int} {v : Int32} (hd : decode M.2.2.1 pc = .ok (.sipush n, 3)) (hv : (Int16.ofInt n).toInt32 = v) : am_EV X d M pc L S w = am_EV X d M (pc + 3) L (.int v :: S) w := am_EV_next (by unfold am_act; rw [hd, ← hv]; rfl)
theorem am_o_lconst {n : Fin 2} {v : Int64} (hd : decode M.2.2.1 pc = .ok (.lconst n, 1)) (hv : Int64.ofNat (n : Nat) = v) : am_EV X d M pc L S w = am_EV X d M (pc + 1) L (.long v :: S) w := am_EV_next (by unfold am_act; rw [hd, ← hv]; rfl)
theorem am_o_ldc {i : Nat} {cv : Int32} {ps : Nat} (hd : decode M.2.2.1 pc = .ok (.ldc i, 2)) (hq : am_lq M.1 i am_tI = some (cv, ps)) : am_EV X d M pc L S w = am_EV X d M (pc + 2) L (.int cv :: S) w := am_EV_next (by unfold am_act; rw [hd]; simp only [am_ins, hq]; rfl)
theorem am_o_ldcw {i : Nat} {cv : Int32} {ps : Nat} (hd : decode M.2.2.1 pc = .ok (.ldc_w i, 3)) (hq : am_lq M.1 i am_tI = some (cv, ps)) : am_EV X d M pc L S w = am_EV X d M (pc + 3) L (.int cv :: S) w := am_EV_next (by unfold am_act; rw [hd]; simp only [am_ins, hq]; rfl)
theorem am_o_ldc2 {i : Nat} {cv : Int64} {ps : Nat} (hd : decode M.2.2.1 pc = .ok (.ldc2_w i, 3)) (hq : am_lq M.1 i am_tJ = some (cv, ps)) : am_EV X d M pc L S w = am_EV X d M (pc + 3) L (.long cv :: S) w := am_EV_next (by unfold am_act; rw [hd]; simp only [am_ins, hq]; rfl)
theorem am_o_iload {i : Nat} {x : Int32} (hd : decode M.2.2.1 pc = .ok (.iload i, 2)) (hl : L[i]? = some (.int x)) : am_EV X d M pc L S w = am_EV X d M (pc + 2) L (.int x :: S) w := am_EV_next (by unfold am_act; rw [hd]; simp only [am_ins, am_ld, hl]; rfl)
theorem am_o_iload_n {i : Fin 4} {x : Int32} (hd : decode M.2.2.1 pc = .ok (.iload_n i, 1)) (hl : L[(i : Nat)]? = some (.int x)) : am_EV X d M pc L S w = am_EV X d M (pc + 1) L (.int x :: S) w := am_EV_next (by unfold am_act; rw [hd]; simp only [am_ins, am_ld, hl]; rfl)
theorem am_o_lload {i : Nat} {x : Int64} {a : Nat} (hd : decode M.2.2.1 pc = .ok (.lload i, 2)) (hl : L[i]? = some (.long x)) (hl2 : L[i + 1]? = some (.retAddr a)) : am_EV X d M pc L S w = am_EV X d M (pc + 2) L (.long x :: S) w := am_EV_next (by unfold am_act; rw [hd]; simp only [am_ins, am_ll, hl, hl2]; rfl)
theorem am_o_lload_n {i : Fin 4} {x : Int64} {a : Nat} (hd : decode M.2.2.1 pc = .ok (.lload_n i, 1)) (hl : L[(i : Nat)]? = some (.long x)) (hl2 : L[(i : Nat) + 1]? = some (.retAddr a)) : am_EV X d M pc L S w = am_EV X d M (pc + 1) L (.long x :: S) w := am_EV_next (by unfold am_act; rw [hd]; simp only [am_ins, am_ll, hl, hl2]; rfl)
theorem am_o_aload {i : Nat} {x : Nat} (hd : decode M.2.2.1 pc = .ok (.aload i, 2)) (hl : L[i]? = some (.ref x)) : am_EV X d M pc L S w = am_EV X d M (pc + 2) L (.ref x :: S) w := am_EV_next (by unfold am_act; rw [hd]; simp only [am_ins, am_la, hl]; rfl)
theorem am_o_aload_n {i : Fin 4} {x : Nat} (hd : decode M.2.2.1 pc = .ok (.aload_n i, 1)) (hl : L[(i : Nat)]? = some (.ref x)) : am_EV X d M pc L S w = am_EV X d M (pc + 1) L (.ref x :: S) w := am_EV_next (by unfold am_act; rw [hd]; simp only [am_ins, am_la, hl]; rfl)
theorem am_o_aload_f {i : Nat} {x : UInt32} (hd : decode M.2.2.1 pc = .ok (.aload i, 2)) (hl : L[i]? = some (.float x)) : am_EV X d M pc L S w = am_EV X d M (pc + 2) L (.float x :: S) w := am_EV_next (by unfold am_act; rw [hd]; simp only [am_ins, am_la, hl]; rfl)
theorem am_o_aload_n_f {i : Fin 4} {x : UInt32} (hd : decode M.2.2.1 pc = .ok (.aload_n i, 1)) (hl : L[(i : Nat)]? = some (.float x)) : am_EV X d M pc L S w = am_EV X d M (pc + 1) L (.float x :: S) w := am_EV_next (by unfold am_act; rw [hd]; simp only [am_ins, am_la, hl]; rfl)
theorem am_o_istore {i : Nat} {x : Int32} (hd : decode M.2.2.1 pc = .ok (.istore i, 2)) (hl : i < L.length) : am_EV X d M pc L (.int x :: S) w = am_EV X d M (pc + 2) (L.set i (.int x)) S w := am_EV_next (by unfold am_act; rw [hd]; simp only [am_ins, am_si, hl, if_true]; rfl)
theorem am_o_istore_n {i : Fin 4} {x : Int32} (hd : decode M.2.2.1 pc = .ok (.istore_n i, 1)) (hl : (i : Nat) < L.length) : am_EV X d M pc L (.int x :: S) w = am_EV X d M (pc + 1) (L.set i (.int x)) S w := am_EV_next (by unfold am_act; rw [hd]; simp only [am_ins, am_si, hl, if_true]; rfl)
theorem am_o_lstore {i : Nat} {x : Int64} (hd : decode M.2.2.1 pc = .ok (.lstore i, 2)) (hl : i + 1 < L.length) : am_EV X d M pc L (.long x :: S) w = am_EV X d M (pc + 2) ((L.set i (.long x)).set (i + 1) (.retAddr 0)) S w := am_EV_next (by unfold am_act; rw [hd]; simp only [am_ins, am_sl, hl, if_true]; rfl)
theorem am_o_astore {i : Nat} {x : Nat} (hd : decode M.2.2.1 pc = .ok (.astore i, 2)) (hl : i < L.length) : am_EV X d M pc L (.ref x :: S) w = am_EV X d M (pc + 2) (L.set i (.ref x)) S w := am_EV_next (by unfold am_act; rw [hd]; simp only [am_ins, am_sa, hl, if_true]; rfl)
theorem am_o_astore_n {i : Fin 4} {x : Nat} (hd : decode M.2.2.1 pc = .ok (.astore_n i, 1)) (hl : (i : Nat) < L.length) : am_EV X d M pc L (.ref x :: S) w = am_EV X d M (pc + 1) (L.set i (.ref x)) S w := am_EV_next (by unfold am_act; rw [hd]; simp only [am_ins, am_sa, hl, if_true]; rfl)
theorem am_o_astore_f {i : Nat} {x : UInt32} (hd : decode M.2.2.1 pc = .ok (.astore i, 2)) (hl : i < L.length) : am_EV X d M pc L (.float x :: S) w = am_EV X d M (pc + 2) (L.set i (.float x)) S w := am_EV_next (by unfold am_act; rw [hd]; simp only [am_ins, am_sa, hl, if_true]; rfl)
theorem am_o_iinc {i : Nat} {n : Int} {x v : Int32} (hd : decode M.2.2.1 pc = .ok (.iinc i n, 3)) (hl : L[i]? = some (.int x)) (hv : Int32.ofInt n = v) : am_EV X d M pc L S w = am_EV X d M (pc + 3) (L.set i (.int (x + v))) S w := am_EV_next (by unfold am_act; rw [hd, ← hv]; simp only [am_ins, hl]; rfl)
theorem am_o_iadd {x y : Int32} (hd : decode M.2.2.1 pc = .ok (.iadd, 1)) : am_EV X d M pc L (.int y :: .int x :: S) w = am_EV X d M (pc + 1) L (.int (x + y) :: S) w := am_EV_next (by unfold am_act; rw [hd]; rfl)
theorem am_o_isub {x y : Int32} (hd : decode M.2.2.1 pc = .ok (.isub, 1)) : am_EV X d M pc L (.int y :: .int x :: S) w = am_EV X d M (pc + 1) L (.int (x - y) :: S) w := am_EV_next (by unfold am_act; rw [hd]; rfl)
theorem am_o_imul {x y : Int32} (hd : decode M.2.2.1 pc = .ok (.imul, 1)) : am_EV X d M pc L (.int y :: .int x :: S) w = am_EV X d M (pc + 1) L (.int (x * y) :: S) w := am_EV_next (by unfold am_act; rw [hd]; rfl)
theorem am_o_iand {x y : Int32} (hd : decode M.2.2.1 pc = .ok (.iand, 1)) : am_EV X d M pc L (.int y :: .int x :: S) w = am_EV X d M (pc + 1) L (.int (x &&& y) :: S) w := am_EV_next (by unfold am_act; rw [hd]; rfl)
theorem am_o_ior {x y : Int32} (hd : decode M.2.2.1 pc = .ok (.ior, 1)) : am_EV X d M pc L (.int y :: .int x :: S) w = am_EV X d M (pc + 1) L (.int (x ||| y) :: S) w := am_EV_next (by unfold am_act; rw [hd]; rfl)
theorem am_o_ixor {x y : Int32} (hd : decode M.2.2.1 pc = .ok (.ixor, 1)) : am_EV X d M pc L (.int y :: .int x :: S) w = am_EV X d M (pc + 1) L (.int (x ^^^ y) :: S) w := am_EV_next (by unfold am_act; rw [hd]; rfl)
theorem am_o_ishl {x y : Int32} (hd : decode M.2.2.1 pc = .ok (.ishl, 1)) : am_EV X d M pc L (.int y :: .int x :: S) w = am_EV X d M (pc + 1) L (.int (x <<< (y &&& 31)) :: S) w := am_EV_next (by unfold am_act; rw [hd]; rfl)
theorem am_o_ishr {x y : Int32} (hd : decode M.2.2.1 pc = .ok (.ishr, 1)) : am_EV X d M pc L (.int y :: .int x :: S) w = am_EV X d M (pc + 1) L (.int (x >>> (y &&& 31)) :: S) w := am_EV_next (by unfold am_act; rw [hd]; rfl)
theorem am_o_iushr {x y : Int32} (hd : decode M.2.2.1 pc = .ok (.iushr, 1)) : am_EV X d M pc L (.int y :: .int x :: S) w = am_EV X d M (pc + 1) L (.int ((x.toUInt32 >>> (y.toUInt32 &&& Int32.toUInt32 31)).toInt32) :: S) w := am_EV_next (by unfold am_act; rw [hd]; rfl)
theorem am_o_idiv {x y : Int32} (hd : decode M.2.2.1 pc = .ok (.idiv, 1)) : am_EV X d M pc L (.int y :: .int x :: S) w = if y = 0 then none else am_EV X d M (pc + 1) L (.int (x / y) :: S) w := by
  by_cases h : y = 0
  · rw [if_pos h]; exact am_EV_none (by unfold am_act; rw [hd]; simp only [am_ins, h, if_true])
  · rw [if_neg h]; exact am_EV_next (by unfold am_act; rw [hd]; simp only [am_ins, h, if_false]; rfl)
theorem am_o_irem {x y : Int32} (hd : decode M.2.2.1 pc = .ok (.irem, 1)) : am_EV X d M pc L (.int y :: .int x :: S) w = if y = 0 then none else am_EV X d M (pc + 1) L (.int (x - x / y * y) :: S) w := by
  by_cases h : y = 0
  · rw [if_pos h]; exact am_EV_none (by unfold am_act; rw [hd]; simp only [am_ins, h, if_true])
  · rw [if_neg h]; exact am_EV_next (by unfold am_act; rw [hd]; simp only [am_ins, h, if_false]; rfl)
theorem am_o_ineg {x : Int32} (hd : decode M.2.2.1 pc = .ok (.ineg, 1)) : am_EV X d M pc L (.int x :: S) w = am_EV X d M (pc + 1) L (.int (-x) :: S) w := am_EV_next (by unfold am_act; rw [hd]; rfl)
theorem am_o_i2l {x : Int32} (hd : decode M.2.2.1 pc = .ok (.i2l, 1)) : am_EV X d M pc L (.int x :: S) w = am_EV X d M (pc + 1) L (.long x.toInt64 :: S) w := am_EV_next (by unfold am_act; rw [hd]; rfl)
theorem am_o_i2b {x : Int32} (hd : decode M.2.2.1 pc = .ok (.i2b, 1)) : am_EV X d M pc L (.int x :: S) w = am_EV X d M (pc + 1) L (.int x.toInt8.toInt32 :: S) w := am_EV_next (by unfold am_act; rw [hd]; rfl)
theorem am_o_i2s {x : Int32} (hd : decode M.2.2.1 pc = .ok (.i2s, 1)) : am_EV X d M pc L (.int x :: S) w = am_EV X d M (pc + 1) L (.int x.toInt16.toInt32 :: S) w := am_EV_next (by unfold am_act; rw [hd]; rfl)
theorem am_o_l2i {x : Int64} (hd : decode M.2.2.1 pc = .ok (.l2i, 1)) : am_EV X d M pc L (.long x :: S) w = am_EV X d M (pc + 1) L (.int x.toInt32 :: S) w := am_EV_next (by unfold am_act; rw [hd]; rfl)
theorem am_o_ladd {x y : Int64} (hd : decode M.2.2.1 pc = .ok (.ladd, 1)) : am_EV X d M pc L (.long y :: .long x :: S) w = am_EV X d M (pc + 1) L (.long (x + y) :: S) w := am_EV_next (by unfold am_act; rw [hd]; rfl)
theorem am_o_lmul {x y : Int64} (hd : decode M.2.2.1 pc = .ok (.lmul, 1)) : am_EV X d M pc L (.long y :: .long x :: S) w = am_EV X d M (pc + 1) L (.long (x * y) :: S) w := am_EV_next (by unfold am_act; rw [hd]; rfl)
theorem am_o_land {x y : Int64} (hd : decode M.2.2.1 pc = .ok (.land, 1)) : am_EV X d M pc L (.long y :: .long x :: S) w = am_EV X d M (pc + 1) L (.long (x &&& y) :: S) w := am_EV_next (by unfold am_act; rw [hd]; rfl)
theorem am_o_lor {x y : Int64} (hd : decode M.2.2.1 pc = .ok (.lor, 1)) : am_EV X d M pc L (.long y :: .long x :: S) w = am_EV X d M (pc + 1) L (.long (x ||| y) :: S) w := am_EV_next (by unfold am_act; rw [hd]; rfl)
theorem am_o_lshl {x : Int64} {y : Int32} (hd : decode M.2.2.1 pc = .ok (.lshl, 1)) : am_EV X d M pc L (.int y :: .long x :: S) w = am_EV X d M (pc + 1) L (.long (x <<< (y.toInt64 &&& 63)) :: S) w := am_EV_next (by unfold am_act; rw [hd]; rfl)
theorem am_o_lcmp {x y : Int64} (hd : decode M.2.2.1 pc = .ok (.lcmp, 1)) : am_EV X d M pc L (.long y :: .long x :: S) w = am_EV X d M (pc + 1) L (.int (lg_cmp x y) :: S) w := am_EV_next (by unfold am_act; rw [hd]; rfl)
theorem am_o_dup_i {x : Int32} (hd : decode M.2.2.1 pc = .ok (.dup, 1)) : am_EV X d M pc L (.int x :: S) w = am_EV X d M (pc + 1) L (.int x :: .int x :: S) w := am_EV_next (by unfold am_act; rw [hd]; rfl)
theorem am_o_dup_r {x : Nat} (hd : decode M.2.2.1 pc = .ok (.dup, 1)) : am_EV X d M pc L (.ref x :: S) w = am_EV X d M (pc + 1) L (.ref x :: .ref x :: S) w := am_EV_next (by unfold am_act; rw [hd]; rfl)
theorem am_o_pop_i {x : Int32} (hd : decode M.2.2.1 pc = .ok (.pop, 1)) : am_EV X d M pc L (.int x :: S) w = am_EV X d M (pc + 1) L S w := am_EV_next (by unfold am_act; rw [hd]; rfl)
theorem am_o_dup_x1 {x : Int32} {r : Nat} (hd : decode M.2.2.1 pc = .ok (.dup_x1, 1)) : am_EV X d M pc L (.int x :: .ref r :: S) w = am_EV X d M (pc + 1) L (.int x :: .ref r :: .int x :: S) w := am_EV_next (by unfold am_act; rw [hd]; rfl)
theorem am_o_dup2 {x : Int32} {r : Nat} (hd : decode M.2.2.1 pc = .ok (.dup2, 1)) : am_EV X d M pc L (.int x :: .ref r :: S) w = am_EV X d M (pc + 1) L (.int x :: .ref r :: .int x :: .ref r :: S) w := am_EV_next (by unfold am_act; rw [hd]; rfl)
theorem am_o_goto {off : Int} {t : Nat} (hd : decode M.2.2.1 pc = .ok (.goto off, 3)) (ht : (pc : Int) + off = (t : Int)) : am_EV X d M pc L S w = am_EV X d M t L S w := am_EV_next (by
  unfold am_act; rw [hd]; simp only [am_ins, am_jp, ht, if_true]
  rw [if_pos (Int.natCast_nonneg t), Int.toNat_natCast])
theorem am_o_if {cd : ClassFile.Cond} {off : Int} {t : Nat} {x : Int32} (hd : decode M.2.2.1 pc = .ok (.ifCond cd off, 3)) (ht : (pc : Int) + off = (t : Int)) : am_EV X d M pc L (.int x :: S) w = if am_cmp cd x 0 = true then am_EV X d M t L S w else am_EV X d M (pc + 3) L S w := by
  have h0 : (0 : Int) ≤ (t : Int) := Int.natCast_nonneg t
  by_cases h : am_cmp cd x 0 = true
  · rw [if_pos h]; exact am_EV_next (by unfold am_act; rw [hd]; simp only [am_ins, am_br, ht, h, h0, and_self, if_true, Int.toNat_natCast])
  · rw [if_neg h]; exact am_EV_next (by unfold am_act; rw [hd]; simp only [am_ins, am_br, ht, h, h0, and_self, if_true, if_false]; rfl)
theorem am_o_ic {cd : ClassFile.Cond} {off : Int} {t : Nat} {x y : Int32} (hd : decode M.2.2.1 pc = .ok (.if_icmp cd off, 3)) (ht : (pc : Int) + off = (t : Int)) : am_EV X d M pc L (.int y :: .int x :: S) w = if am_cmp cd x y = true then am_EV X d M t L S w else am_EV X d M (pc + 3) L S w := by
  have h0 : (0 : Int) ≤ (t : Int) := Int.natCast_nonneg t
  by_cases h : am_cmp cd x y = true
  · rw [if_pos h]; exact am_EV_next (by unfold am_act; rw [hd]; simp only [am_ins, am_br, ht, h, h0, and_self, if_true, Int.toNat_natCast])
  · rw [if_neg h]; exact am_EV_next (by unfold am_act; rw [hd]; simp only [am_ins, am_br, ht, h, h0, and_self, if_true, if_false]; rfl)
theorem am_c_eq {α : Type} {x y : Int32} {a b : α} : (if am_cmp .eq x y = true then a else b) = if x = y then a else b := by by_cases h : x = y <;> simp [am_cmp, h]
theorem am_c_ne {α : Type} {x y : Int32} {a b : α} : (if am_cmp .ne x y = true then a else b) = if x = y then b else a := by by_cases h : x = y <;> simp [am_cmp, h]
theorem am_c_lt {α : Type} {x y : Int32} {a b : α} : (if am_cmp .lt x y = true then a else b) = if x < y then a else b := by by_cases h : x < y <;> simp [am_cmp, h]
theorem am_c_gt {α : Type} {x y : Int32} {a b : α} : (if am_cmp .gt x y = true then a else b) = if y < x then a else b := by by_cases h : y < x <;> simp [am_cmp, h]
theorem am_c_ge {α : Type} {x y : Int32} {a b : α} : (if am_cmp .ge x y = true then a else b) = if x < y then b else a := by
  by_cases h : x < y
  · have h2 : ¬ y ≤ x := Int32.not_le.mpr h
    simp [am_cmp, h, h2]
  · have h2 : y ≤ x := Int32.not_lt.mp h
    simp [am_cmp, h, h2]
theorem am_c_le {α : Type} {x y : Int32} {a b : α} : (if am_cmp .le x y = true then a else b) = if y < x then b else a := by
  by_cases h : y < x
  · have h2 : ¬ x ≤ y := Int32.not_le.mpr h
    simp [am_cmp, h, h2]
  · have h2 : x ≤ y := Int32.not_lt.mp h
    simp [am_cmp, h, h2]
theorem am_o_tab {dflt lo hi off : Int} {offs : Array Int} {len t : Nat} {x : Int32} (hd : decode M.2.2.1 pc = .ok (.tableswitch dflt lo hi offs, len)) (h1 : ¬ (x.toInt < lo ∨ hi < x.toInt)) (ho : offs[(x.toInt - lo).toNat]? = some off) (ht : (pc : Int) + off = (t : Int)) : am_EV X d M pc L (.int x :: S) w = am_EV X d M t L S w := am_EV_next (by
  unfold am_act; rw [hd]; simp only [am_ins, h1, if_false, ho, am_jp, ht]
  rw [if_pos (Int.natCast_nonneg t), Int.toNat_natCast])
theorem am_o_tabD {dflt lo hi : Int} {offs : Array Int} {len t : Nat} {x : Int32} (hd : decode M.2.2.1 pc = .ok (.tableswitch dflt lo hi offs, len)) (ht : (pc : Int) + dflt = (t : Int)) (h1 : x.toInt < lo ∨ hi < x.toInt) : am_EV X d M pc L (.int x :: S) w = am_EV X d M t L S w := am_EV_next (by
  unfold am_act; rw [hd]; simp only [am_ins, h1, if_true, am_jp, ht]
  rw [if_pos (Int.natCast_nonneg t), Int.toNat_natCast])
theorem am_o_look {dflt off : Int} {ps : Array (Int × Int)} {len t : Nat} {x : Int32} (hd : decode M.2.2.1 pc = .ok (.lookupswitch dflt ps, len)) (h1 : (ps.toList.zip (ps.toList.drop 1)).all (fun (a, next) => a.1 < next.1) = true) (ho : Op.lookupswitch.offset ps.toList dflt x.toInt = off) (ht : (pc : Int) + off = (t : Int)) : am_EV X d M pc L (.int x :: S) w = am_EV X d M t L S w := am_EV_next (by
  unfold am_act; rw [hd]; simp only [am_ins, h1, if_true, ho, am_jp, ht]
  rw [if_pos (Int.natCast_nonneg t), Int.toNat_natCast])
theorem am_o_getf {i r : Nat} {ci fk ps : Nat} {nb : Bool} (hd : decode M.2.2.1 pc = .ok (.getfield i, 3)) (hq : am_lq M.1 i am_tF = some (ci, fk, ps, nb)) : am_EV X d M pc L (.ref r :: S) w = if am_isF ci fk (am_rd w r) = true then am_EV X d M (pc + 3) L (am_fld fk (am_rd w r) :: S) w else none := by
  by_cases h : am_isF ci fk (am_rd w r) = true
  · rw [if_pos h]; exact am_EV_next (by unfold am_act; rw [hd]; simp only [am_ins, hq, h, if_true]; rfl)
  · rw [if_neg h]; exact am_EV_none (by unfold am_act; rw [hd]; simp only [am_ins, hq, h, if_false]; rfl)
theorem am_o_putf {i r : Nat} {v : Value} {ci fk ps : Nat} {nb : Bool} (hd : decode M.2.2.1 pc = .ok (.putfield i, 3)) (hq : am_lq M.1 i am_tF = some (ci, fk, ps, nb)) (hm : am_mayF M ci fk = true) : am_EV X d M pc L (v :: .ref r :: S) w = if am_isF ci fk (am_rd w r) = true ∧ am_fits ci fk v = true then am_EV X d M (pc + 3) L S (am_wr w r (am_put fk (am_rd w r) v)) else none := by
  by_cases h : am_isF ci fk (am_rd w r) = true ∧ am_fits ci fk v = true
  · rw [if_pos h]; exact am_EV_next (by unfold am_act; rw [hd]; simp only [am_ins, hq, h.1, h.2, hm, Bool.and_self, if_true]; rfl)
  · rw [if_neg h]
    have h2 : (am_isF ci fk (am_rd w r) && am_mayF M ci fk && am_fits ci fk v) = false := by
      cases h3 : am_isF ci fk (am_rd w r) <;> cases h4 : am_fits ci fk v <;> simp_all
    exact am_EV_none (by unfold am_act; rw [hd]; simp only [am_ins, hq, h2]; rfl)
theorem am_o_gets {i : Nat} {sk : UInt32} {ps : Nat} {nb : Bool} (hd : decode M.2.2.1 pc = .ok (.getstatic i, 3)) (hq : am_lq M.1 i am_tS = some (sk, ps, nb)) : am_EV X d M pc L S w = am_EV X d M (pc + 3) L (.float sk :: S) w := am_EV_next (by unfold am_act; rw [hd]; simp only [am_ins, hq]; rfl)
theorem am_o_iald {r : Nat} {i : Int32} (hd : decode M.2.2.1 pc = .ok (.iaload, 1)) : am_EV X d M pc L (.int i :: .ref r :: S) w = if am_isI 0 (am_rd w r) i = true then am_EV X d M (pc + 1) L (.int (am_geI (am_rd w r) i) :: S) w else none := by
  by_cases h : am_isI 0 (am_rd w r) i = true
  · rw [if_pos h]; exact am_EV_next (by unfold am_act; rw [hd]; simp only [am_ins, h, if_true]; rfl)
  · rw [if_neg h]; exact am_EV_none (by unfold am_act; rw [hd]; simp only [am_ins, h, if_false]; rfl)
theorem am_o_iald_f {k : UInt32} {i : Int32} (hd : decode M.2.2.1 pc = .ok (.iaload, 1)) : am_EV X d M pc L (.int i :: .float k :: S) w = if k ≤ 5 ∧ am_in i (am_out X k).1 = true then am_EV X d M (pc + 1) L (.int ((am_out X k).2 i.toNatClampNeg) :: S) w else none := by
  by_cases h : k ≤ 5 ∧ am_in i (am_out X k).1 = true
  · rw [if_pos h]; exact am_EV_next (by unfold am_act; rw [hd]; simp only [am_ins, h, and_self, if_true]; rfl)
  · rw [if_neg h]; exact am_EV_none (by unfold am_act; rw [hd]; simp only [am_ins, h, if_false])
theorem am_o_cald {r : Nat} {i : Int32} (hd : decode M.2.2.1 pc = .ok (.caload, 1)) : am_EV X d M pc L (.int i :: .ref r :: S) w = if am_isI 2 (am_rd w r) i = true then am_EV X d M (pc + 1) L (.int (am_geI (am_rd w r) i) :: S) w else none := by
  by_cases h : am_isI 2 (am_rd w r) i = true
  · rw [if_pos h]; exact am_EV_next (by unfold am_act; rw [hd]; simp only [am_ins, h, if_true]; rfl)
  · rw [if_neg h]; exact am_EV_none (by unfold am_act; rw [hd]; simp only [am_ins, h, if_false]; rfl)
theorem am_o_lald {r : Nat} {i : Int32} (hd : decode M.2.2.1 pc = .ok (.laload, 1)) : am_EV X d M pc L (.int i :: .ref r :: S) w = if am_isJ 1 (am_rd w r) i = true then am_EV X d M (pc + 1) L (.long (am_geJ (am_rd w r) i) :: S) w else none := by
  by_cases h : am_isJ 1 (am_rd w r) i = true
  · rw [if_pos h]; exact am_EV_next (by unfold am_act; rw [hd]; simp only [am_ins, h, if_true]; rfl)
  · rw [if_neg h]; exact am_EV_none (by unfold am_act; rw [hd]; simp only [am_ins, h, if_false]; rfl)
theorem am_o_aald {r : Nat} {i : Int32} (hd : decode M.2.2.1 pc = .ok (.aaload, 1)) : am_EV X d M pc L (.int i :: .ref r :: S) w = if am_isA (am_rd w r) i = true then am_EV X d M (pc + 1) L (am_geA (am_rd w r) i :: S) w else none := by
  by_cases h : am_isA (am_rd w r) i = true
  · rw [if_pos h]; exact am_EV_next (by unfold am_act; rw [hd]; simp only [am_ins, h, if_true]; rfl)
  · rw [if_neg h]; exact am_EV_none (by unfold am_act; rw [hd]; simp only [am_ins, h, if_false]; rfl)
theorem am_o_iast {r : Nat} {i x : Int32} (hd : decode M.2.2.1 pc = .ok (.iastore, 1)) : am_EV X d M pc L (.int x :: .int i :: .ref r :: S) w = if am_isI 0 (am_rd w r) i = true then am_EV X d M (pc + 1) L S (am_wr w r (am_seI (am_rd w r) i x)) else none := by
  by_cases h : am_isI 0 (am_rd w r) i = true
  · rw [if_pos h]; exact am_EV_next (by unfold am_act; rw [hd]; simp only [am_ins, h, if_true]; rfl)
  · rw [if_neg h]; exact am_EV_none (by unfold am_act; rw [hd]; simp only [am_ins, h, if_false]; rfl)
theorem am_o_cast {r : Nat} {i x : Int32} (hd : decode M.2.2.1 pc = .ok (.castore, 1)) : am_EV X d M pc L (.int x :: .int i :: .ref r :: S) w = if am_isI 2 (am_rd w r) i = true then am_EV X d M (pc + 1) L S (am_wr w r (am_seI (am_rd w r) i (vp_nar .char x))) else none := by
  by_cases h : am_isI 2 (am_rd w r) i = true
  · rw [if_pos h]; exact am_EV_next (by unfold am_act; rw [hd]; simp only [am_ins, h, if_true]; rfl)
  · rw [if_neg h]; exact am_EV_none (by unfold am_act; rw [hd]; simp only [am_ins, h, if_false]; rfl)
theorem am_o_last {r : Nat} {i : Int32} {x : Int64} (hd : decode M.2.2.1 pc = .ok (.lastore, 1)) : am_EV X d M pc L (.long x :: .int i :: .ref r :: S) w = if am_isJ 1 (am_rd w r) i = true then am_EV X d M (pc + 1) L S (am_wr w r (am_seJ (am_rd w r) i x)) else none := by
  by_cases h : am_isJ 1 (am_rd w r) i = true
  · rw [if_pos h]; exact am_EV_next (by unfold am_act; rw [hd]; simp only [am_ins, h, if_true]; rfl)
  · rw [if_neg h]; exact am_EV_none (by unfold am_act; rw [hd]; simp only [am_ins, h, if_false]; rfl)
theorem am_o_aast {r v : Nat} {i : Int32} (hd : decode M.2.2.1 pc = .ok (.aastore, 1)) : am_EV X d M pc L (.ref v :: .int i :: .ref r :: S) w = if (am_isA (am_rd w r) i && am_isO (am_el (am_rd w r)) (am_rd w v)) = true then am_EV X d M (pc + 1) L S (am_wr w r (am_seA (am_rd w r) i v)) else none := by
  by_cases h : (am_isA (am_rd w r) i && am_isO (am_el (am_rd w r)) (am_rd w v)) = true
  · rw [if_pos h]; exact am_EV_next (by unfold am_act; rw [hd]; simp only [am_ins, h, if_true]; rfl)
  · rw [if_neg h]; exact am_EV_none (by unfold am_act; rw [hd]; simp only [am_ins, h, if_false]; rfl)
theorem am_o_alen {r : Nat} (hd : decode M.2.2.1 pc = .ok (.arraylength, 1)) : am_EV X d M pc L (.ref r :: S) w = if am_isL (am_rd w r) = true then am_EV X d M (pc + 1) L (.int (am_len (am_rd w r)) :: S) w else none := by
  by_cases h : am_isL (am_rd w r) = true
  · rw [if_pos h]; exact am_EV_next (by unfold am_act; rw [hd]; simp only [am_ins, h, if_true]; rfl)
  · rw [if_neg h]; exact am_EV_none (by unfold am_act; rw [hd]; simp only [am_ins, h, if_false]; rfl)
theorem am_o_alen_f {k : UInt32} (hd : decode M.2.2.1 pc = .ok (.arraylength, 1)) : am_EV X d M pc L (.float k :: S) w = if k ≤ 5 then am_EV X d M (pc + 1) L (.int (Int32.ofNat (am_out X k).1) :: S) w else none := by
  by_cases h : k ≤ 5
  · rw [if_pos h]; exact am_EV_next (by unfold am_act; rw [hd]; simp only [am_ins, h, if_true]; rfl)
  · rw [if_neg h]; exact am_EV_none (by unfold am_act; rw [hd]; simp only [am_ins, h, if_false])
theorem am_o_new {i : Nat} {ci p1 p2 p3 : Nat} (hd : decode M.2.2.1 pc = .ok (.new i, 3)) (hq : am_lq M.1 i am_tC = some (ci, p1, p2, p3)) : am_EV X d M pc L S w = am_EV X d M (pc + 3) L (.ref w.1 :: S) (am_al w (am_N ci) (am_new ci)) := am_EV_next (by unfold am_act; rw [hd]; simp only [am_ins, hq]; rfl)
theorem am_o_newI {n : Int32} (hd : decode M.2.2.1 pc = .ok (.newarray .int, 2)) (hn : ¬ (n < 0 ∨ 1000 < n.toNatClampNeg)) : am_EV X d M pc L (.int n :: S) w = am_EV X d M (pc + 2) L (.ref w.1 :: S) (am_al w n.toNatClampNeg (.inl (0, n.toNatClampNeg, .inl (fun _ => 0)))) := am_EV_next (by unfold am_act; rw [hd]; simp only [am_ins, hn, if_false]; rfl)
theorem am_o_newJ {n : Int32} (hd : decode M.2.2.1 pc = .ok (.newarray .long, 2)) (hn : ¬ (n < 0 ∨ 1000 < n.toNatClampNeg)) : am_EV X d M pc L (.int n :: S) w = am_EV X d M (pc + 2) L (.ref w.1 :: S) (am_al w n.toNatClampNeg (.inl (1, n.toNatClampNeg, .inr (.inl (fun _ => 0))))) := am_EV_next (by unfold am_act; rw [hd]; simp only [am_ins, hn, if_false]; rfl)
theorem am_o_newC {n : Int32} (hd : decode M.2.2.1 pc = .ok (.newarray .char, 2)) (hn : ¬ (n < 0 ∨ 1000 < n.toNatClampNeg)) : am_EV X d M pc L (.int n :: S) w = am_EV X d M (pc + 2) L (.ref w.1 :: S) (am_al w n.toNatClampNeg (.inl (2, n.toNatClampNeg, .inl (fun _ => 0)))) := am_EV_next (by unfold am_act; rw [hd]; simp only [am_ins, hn, if_false]; rfl)
theorem am_o_newA {i : Nat} {ci p1 p2 p3 : Nat} {n : Int32} (hd : decode M.2.2.1 pc = .ok (.anewarray i, 3)) (hq : am_lq M.1 i am_tC = some (ci, p1, p2, p3)) (hn : ¬ (n < 0 ∨ 1000 < n.toNatClampNeg)) : (ci = 8 → am_EV X d M pc L (.int n :: S) w = am_EV X d M (pc + 3) L (.ref w.1 :: S) (am_al w n.toNatClampNeg (.inl (3, n.toNatClampNeg, .inr (.inr (.inr (.inr (fun _ => none)))))))) ∧ (ci = 6 → am_EV X d M pc L (.int n :: S) w = am_EV X d M (pc + 3) L (.ref w.1 :: S) (am_al w n.toNatClampNeg (.inl (4, n.toNatClampNeg, .inr (.inr (.inr (.inr (fun _ => none)))))))) :=
  ⟨fun h => am_EV_next (by unfold am_act; rw [hd]; simp only [am_ins, hq, hn, if_false, h, if_true]; rfl), fun h => am_EV_next (by unfold am_act; rw [hd]; simp only [am_ins, hq, hn, if_false, h]; rfl)⟩
theorem am_o_virt {i r : Nat} {mi na ci : Nat} {nb : Bool} {ps : List Nat} {as S' : List Value} {M' : am_M} (hd : decode M.2.2.1 pc = .ok (.invokevirtual i, 3)) (hq : am_lq M.1 i am_tM = some (0, mi, na, ci, nb, ps)) (hM : am_mt mi = M') (hp : am_pop na S [] = some (as, .ref r :: S')) (hl : am_rs S' = true) : am_EV X d M pc L S w = if am_isO ci (am_rd w r) = true then am_rt X d (am_CL X d M' (.ref r :: as) w) M (pc + 3) L S' else none := by
  subst hM
  by_cases h : am_isO ci (am_rd w r) = true
  · rw [if_pos h]; exact am_EV_call (by unfold am_act; rw [hd]; simp only [am_ins, hq, hp, h, hl, and_self, Bool.and_self, if_true])
  · rw [if_neg h]; exact am_EV_none (by unfold am_act; rw [hd]; simp only [am_ins, hq, hp, h, and_self, if_true, Bool.false_and]; rfl)
theorem am_o_stat {i : Nat} {mi na ci : Nat} {nb : Bool} {ps : List Nat} {as S' : List Value} {M' : am_M} (hd : decode M.2.2.1 pc = .ok (.invokestatic i, 3)) (hq : am_lq M.1 i am_tM = some (1, mi, na, ci, nb, ps)) (hM : am_mt mi = M') (hp : am_pop na S [] = some (as, S')) (hl : am_rs S' = true) : am_EV X d M pc L S w = am_rt X d (am_CL X d M' as w) M (pc + 3) L S' := by
  subst hM
  exact am_EV_call (by unfold am_act; rw [hd]; simp only [am_ins, hq, hp, hl, and_self, if_true])
theorem am_o_init {i r : Nat} {mi na ci : Nat} {nb : Bool} {ps : List Nat} {as S' : List Value} {M' : am_M} (hd : decode M.2.2.1 pc = .ok (.invokespecial i, 3)) (hq : am_lq M.1 i am_tM = some (2, mi, na, ci, nb, ps)) (hM : am_mt mi = M') (hp : am_pop na S [] = some (as, .ref r :: S')) (hl : am_rs S' = true) : am_EV X d M pc L S w = am_rt X d (am_CL X d M' (.ref r :: as) w) M (pc + 3) L S' := by
  subst hM
  exact am_EV_call (by unfold am_act; rw [hd]; simp only [am_ins, hq, hp, hl, and_self, if_true])
theorem am_o_obj {i r : Nat} {mi na ci : Nat} {nb : Bool} {ps : List Nat} {S' : List Value} (hd : decode M.2.2.1 pc = .ok (.invokespecial i, 3)) (hq : am_lq M.1 i am_tM = some (3, mi, na, ci, nb, ps)) (hl : am_rs S' = true) : am_EV X d M pc L (.ref r :: S') w = am_EV X d M (pc + 3) L S' w :=
  am_EV_next (by unfold am_act; rw [hd]; simp only [am_ins, hq, hl, and_true, if_true, if_false]; rfl)
theorem am_o_copy {i a b : Nat} {mi na ci : Nat} {nb : Bool} {ps : List Nat} {n dp sp : Int32} {S' : List Value} {cl : am_C} (hd : decode M.2.2.1 pc = .ok (.invokestatic i, 3)) (hq : am_lq M.1 i am_tM = some (4, mi, na, ci, nb, ps)) (hl : am_rs S' = true) (hc : am_cp (am_rd w a) sp (am_rd w b) dp n = some cl) : am_EV X d M pc L (.int n :: .int dp :: .ref b :: .int sp :: .ref a :: S') w = am_EV X d M (pc + 3) L S' (am_wr w b cl) :=
  am_EV_next (by unfold am_act; rw [hd]; simp only [am_ins, hq, hl, hc, and_true, if_true, if_false]; rfl)
theorem am_o_max {i : Nat} {mi na ci : Nat} {nb : Bool} {ps : List Nat} {x y : Int32} {S' : List Value} (hd : decode M.2.2.1 pc = .ok (.invokestatic i, 3)) (hq : am_lq M.1 i am_tM = some (5, mi, na, ci, nb, ps)) (hl : am_rs S' = true) : am_EV X d M pc L (.int y :: .int x :: S') w = am_EV X d M (pc + 3) L (.int (if x < y then y else x) :: S') w :=
  am_EV_next (by unfold am_act; rw [hd]; simp only [am_ins, hq, hl, and_true, if_true, if_false]; rfl)
theorem am_o_min {i : Nat} {mi na ci : Nat} {nb : Bool} {ps : List Nat} {x y : Int32} {S' : List Value} (hd : decode M.2.2.1 pc = .ok (.invokestatic i, 3)) (hq : am_lq M.1 i am_tM = some (6, mi, na, ci, nb, ps)) (hl : am_rs S' = true) : am_EV X d M pc L (.int y :: .int x :: S') w = am_EV X d M (pc + 3) L (.int (if y < x then y else x) :: S') w :=
  am_EV_next (by unfold am_act; rw [hd]; simp only [am_ins, hq, hl, and_true, if_true, if_false]; rfl)
theorem am_o_abs {i : Nat} {mi na ci : Nat} {nb : Bool} {ps : List Nat} {x : Int32} {S' : List Value} (hd : decode M.2.2.1 pc = .ok (.invokestatic i, 3)) (hq : am_lq M.1 i am_tM = some (7, mi, na, ci, nb, ps)) (hl : am_rs S' = true) : am_EV X d M pc L (.int x :: S') w = am_EV X d M (pc + 3) L (.int (if 0 ≤ x then x else 0 - x) :: S') w :=
  am_EV_next (by unfold am_act; rw [hd]; simp only [am_ins, hq, hl, and_true, if_true, if_false]; rfl)
theorem am_o_iret {x : Int32} (hd : decode M.2.2.1 pc = .ok (.ireturn, 1)) (hr : M.2.2.2.2 = some .int) : am_EV X d M pc L [.int x] w = some (some (.int x), w) := am_EV_ret (by unfold am_act; rw [hd]; simp only [am_ins, hr, true_and, true_or, if_true])
theorem am_o_zret {x : Int32} (hd : decode M.2.2.1 pc = .ok (.ireturn, 1)) (hr : M.2.2.2.2 = some .boolean) : am_EV X d M pc L [.int x] w = if x = 0 ∨ x = 1 then some (some (.int x), w) else none := by
  by_cases h : x = 0 ∨ x = 1
  · rw [if_pos h]; exact am_EV_ret (by unfold am_act; rw [hd]; simp only [am_ins, hr, h, true_and, or_true, and_self, if_true])
  · rw [if_neg h]; exact am_EV_none (by unfold am_act; rw [hd]; simp only [am_ins, hr, h]; rfl)
theorem am_o_lret {x : Int64} (hd : decode M.2.2.1 pc = .ok (.lreturn, 1)) (hr : M.2.2.2.2 = some .long) : am_EV X d M pc L [.long x] w = some (some (.long x), w) := am_EV_ret (by unfold am_act; rw [hd]; simp only [am_ins, hr, and_self, if_true])
theorem am_o_aret {x : Nat} (hd : decode M.2.2.1 pc = .ok (.areturn, 1)) (hr : M.2.2.2.2 = some (.array .int)) : am_EV X d M pc L [.ref x] w = some (some (.ref x), w) := am_EV_ret (by unfold am_act; rw [hd]; simp only [am_ins, hr, and_self, if_true])
theorem am_o_vret (hd : decode M.2.2.1 pc = .ok (.return_, 1)) (hr : M.2.2.2.2 = none) : am_EV X d M pc L [] w = some (none, w) := am_EV_ret (by unfold am_act; rw [hd]; simp only [am_ins, hr, and_self, if_true])
end AMO

def am_ty (ci k : Nat) : FieldType := match ci with
  | 0 => tyX0 k | 1 => tyX1 k | 2 => tyX2 k | 3 => tyX3 k | 4 => tyX4 k | 5 => tyX5 k | 6 => tyX6 k | 7 => tyX7 k | 8 => tyX8 k | 9 => tyX9 k | 10 => tyX10 k | _ => tyX11 k
def am_N (ci : Nat) : Nat := [6, 6, 7, 6, 6, 6, 5, 4, 5, 8, 12, 51].getD ci 0
def am_fin (ci k : Nat) : Bool := match vwCl[ci]? with
  | some C => (C.2.1 k).2.2.2
  | none => true
def am_new (ci : Nat) : am_C := .inr (ci, (List.range (am_N ci)).map (fun k => defaultValue (am_ty ci k)))
def am_nof : Value → Bool
  | .float _ => false
  | _ => true
def am_fits (ci k : Nat) (v : Value) : Bool := (fits (am_ty ci k) v && decide (narrow (am_ty ci k) v = v)) && am_nof v
/-- whether a method may write a field -/
def am_mayF (M : am_M) (ci k : Nat) : Bool := !(am_fin ci k) || (M.2.1.name == "<init>" && M.1 == ci)
def am_ins (X : Nat × (Nat → Int32)) (M : am_M) (pc len : Nat) (L S : List Value) (w : am_W) (ins : Instr) : am_O := match ins with
  | .iconst n => am_nx 1 len pc L (.int (Int32.ofInt n) :: S) w
  | .bipush n => am_nx 2 len pc L (.int (Int8.ofInt n).toInt32 :: S) w
  | .sipush n => am_nx 3 len pc L (.int (Int16.ofInt n).toInt32 :: S) w
  | .lconst n => am_nx 1 len pc L (.long (Int64.ofNat (n : Nat)) :: S) w
  | .ldc i => match am_lq M.1 i am_tI with
    | some q => am_nx 2 len pc L (.int q.1 :: S) w
    | none => none
  | .ldc_w i => match am_lq M.1 i am_tI with
    | some q => am_nx 3 len pc L (.int q.1 :: S) w
    | none => none
  | .ldc2_w i => match am_lq M.1 i am_tJ with
    | some q => am_nx 3 len pc L (.long q.1 :: S) w
    | none => none
  | .iload i => am_ld i 2 len pc L S w
  | .iload_n i => am_ld i 1 len pc L S w
  | .lload i => am_ll i 2 len pc L S w
  | .lload_n i => am_ll i 1 len pc L S w
  | .aload i => am_la i 2 len pc L S w
  | .aload_n i => am_la i 1 len pc L S w
  | .istore i => am_si i 2 len pc L S w
  | .istore_n i => am_si i 1 len pc L S w
  | .lstore i => am_sl i 2 len pc L S w
  | .astore i => am_sa i 2 len pc L S w
  | .astore_n i => am_sa i 1 len pc L S w
  | .iinc i n => match L[i]? with
    | some (.int x) => am_nx 3 len pc (L.set i (.int (x + Int32.ofInt n))) S w
    | _ => none
  | .iadd => am_i2 (fun x y => x + y) len pc L S w
  | .isub => am_i2 (fun x y => x - y) len pc L S w
  | .imul => am_i2 (fun x y => x * y) len pc L S w
  | .iand => am_i2 (fun x y => x &&& y) len pc L S w
  | .ior => am_i2 (fun x y => x ||| y) len pc L S w
  | .ixor => am_i2 (fun x y => x ^^^ y) len pc L S w
  | .ishl => am_i2 (fun x y => x <<< (y &&& 31)) len pc L S w
  | .ishr => am_i2 (fun x y => x >>> (y &&& 31)) len pc L S w
  | .iushr => am_i2 (fun x y => (x.toUInt32 >>> (y.toUInt32 &&& Int32.toUInt32 31)).toInt32) len pc L S w
  | .idiv => match S with
    | .int y :: .int x :: S => if y = 0 then none else am_nx 1 len pc L (.int (x / y) :: S) w
    | _ => none
  | .irem => match S with
    | .int y :: .int x :: S => if y = 0 then none else am_nx 1 len pc L (.int (x - x / y * y) :: S) w
    | _ => none
  | .ineg => am_i1 (fun x => .int (-x)) len pc L S w
  | .i2l => am_i1 (fun x => .long x.toInt64) len pc L S w
  | .i2b => am_i1 (fun x => .int x.toInt8.toInt32) len pc L S w
  | .i2s => am_i1 (fun x => .int x.toInt16.toInt32) len pc L S w
  | .l2i => match S with
    | .long x :: S => am_nx 1 len pc L (.int x.toInt32 :: S) w
    | _ => none
  | .ladd => am_l2 (fun x y => x + y) len pc L S w
  | .lmul => am_l2 (fun x y => x * y) len pc L S w
  | .land => am_l2 (fun x y => x &&& y) len pc L S w
  | .lor => am_l2 (fun x y => x ||| y) len pc L S w
  | .lshl => match S with
    | .int y :: .long x :: S => am_nx 1 len pc L (.long (x <<< (y.toInt64 &&& 63)) :: S) w
    | _ => none
  | .lcmp => match S with
    | .long y :: .long x :: S => am_nx 1 len pc L (.int (lg_cmp x y) :: S) w
    | _ => none
  | .dup => match S with
    | v :: S => if v.category = 1 then am_nx 1 len pc L (v :: v :: S) w else none
    | _ => none
  | .pop => match S with
    | v :: S => if v.category = 1 then am_nx 1 len pc L S w else none
    | _ => none
  | .dup_x1 => match S with
    | v :: u :: S => if v.category = 1 ∧ u.category = 1 then am_nx 1 len pc L (v :: u :: v :: S) w else none
    | _ => none
  | .dup2 => match S with
    | v :: u :: S => if v.category = 1 ∧ u.category = 1 then am_nx 1 len pc L (v :: u :: v :: u :: S) w else none
    | _ => none
  | .goto off => if len = 3 then am_jp pc off L S w else none
  | .ifCond c off => match S with
    | .int x :: S => am_br len pc off (am_cmp c x 0) L S w
    | _ => none
  | .if_icmp c off => match S with
    | .int y :: .int x :: S => am_br len pc off (am_cmp c x y) L S w
    | _ => none
  | .tableswitch dflt lo hi offs => match S with
    | .int x :: S => if x.toInt < lo ∨ hi < x.toInt then am_jp pc dflt L S w else (match offs[(x.toInt - lo).toNat]? with
      | some off => am_jp pc off L S w
      | none => none)
    | _ => none
  | .lookupswitch dflt ps => match S with
    | .int x :: S => if (ps.toList.zip (ps.toList.drop 1)).all (fun (a, next) => a.1 < next.1) = true then am_jp pc (Op.lookupswitch.offset ps.toList dflt x.toInt) L S w else none
    | _ => none
  | .getfield i => match am_lq M.1 i am_tF, S with
    | some q, .ref r :: S => if am_isF q.1 q.2.1 (am_rd w r) then am_nx 3 len pc L (am_fld q.2.1 (am_rd w r) :: S) w else none
    | _, _ => none
  | .putfield i => match am_lq M.1 i am_tF, S with
    | some q, v :: .ref r :: S => if am_isF q.1 q.2.1 (am_rd w r) && am_mayF M q.1 q.2.1 && am_fits q.1 q.2.1 v then am_nx 3 len pc L S (am_wr w r (am_put q.2.1 (am_rd w r) v)) else none
    | _, _ => none
  | .getstatic i => match am_lq M.1 i am_tS with
    | some q => am_nx 3 len pc L (.float q.1 :: S) w
    | none => none
  | .iaload => match S with
    | .int i :: .ref r :: S => if am_isI 0 (am_rd w r) i then am_nx 1 len pc L (.int (am_geI (am_rd w r) i) :: S) w else none
    | .int i :: .float k :: S => if k ≤ 5 ∧ am_in i (am_out X k).1 then am_nx 1 len pc L (.int ((am_out X k).2 i.toNatClampNeg) :: S) w else none
    | _ => none
  | .caload => match S with
    | .int i :: .ref r :: S => if am_isI 2 (am_rd w r) i then am_nx 1 len pc L (.int (am_geI (am_rd w r) i) :: S) w else none
    | _ => none
  | .laload => match S with
    | .int i :: .ref r :: S => if am_isJ 1 (am_rd w r) i then am_nx 1 len pc L (.long (am_geJ (am_rd w r) i) :: S) w else none
    | _ => none
  | .aaload => match S with
    | .int i :: .ref r :: S => if am_isA (am_rd w r) i then am_nx 1 len pc L (am_geA (am_rd w r) i :: S) w else none
    | _ => none
  | .iastore => match S with
    | .int x :: .int i :: .ref r :: S => if am_isI 0 (am_rd w r) i then am_nx 1 len pc L S (am_wr w r (am_seI (am_rd w r) i x)) else none
    | _ => none
  | .castore => match S with
    | .int x :: .int i :: .ref r :: S => if am_isI 2 (am_rd w r) i then am_nx 1 len pc L S (am_wr w r (am_seI (am_rd w r) i (vp_nar .char x))) else none
    | _ => none
  | .lastore => match S with
    | .long x :: .int i :: .ref r :: S => if am_isJ 1 (am_rd w r) i then am_nx 1 len pc L S (am_wr w r (am_seJ (am_rd w r) i x)) else none
    | _ => none
  | .aastore => match S with
    | .ref v :: .int i :: .ref r :: S => if am_isA (am_rd w r) i && am_isO (am_el (am_rd w r)) (am_rd w v) then am_nx 1 len pc L S (am_wr w r (am_seA (am_rd w r) i v)) else none
    | _ => none
  | .arraylength => match S with
    | .ref r :: S => if am_isL (am_rd w r) then am_nx 1 len pc L (.int (am_len (am_rd w r)) :: S) w else none
    | .float k :: S => if k ≤ 5 then am_nx 1 len pc L (.int (Int32.ofNat (am_out X k).1) :: S) w else none
    | _ => none
  | .new i => match am_lq M.1 i am_tC with
    | some q => am_nx 3 len pc L (.ref w.1 :: S) (am_al w (am_N q.1) (am_new q.1))
    | none => none
  | .newarray a => match S with
    | .int n :: S => if n < 0 ∨ 1000 < n.toNatClampNeg then none else (match a with
      | .int => am_nx 2 len pc L (.ref w.1 :: S) (am_al w n.toNatClampNeg (.inl (0, n.toNatClampNeg, .inl (fun _ => 0))))
      | .long => am_nx 2 len pc L (.ref w.1 :: S) (am_al w n.toNatClampNeg (.inl (1, n.toNatClampNeg, .inr (.inl (fun _ => 0)))))
      | .char => am_nx 2 len pc L (.ref w.1 :: S) (am_al w n.toNatClampNeg (.inl (2, n.toNatClampNeg, .inl (fun _ => 0))))
      | _ => none)
    | _ => none
  | .anewarray i => match am_lq M.1 i am_tC, S with
    | some q, .int n :: S => if n < 0 ∨ 1000 < n.toNatClampNeg then none else if q.1 = 8 then am_nx 3 len pc L (.ref w.1 :: S) (am_al w n.toNatClampNeg (.inl (3, n.toNatClampNeg, .inr (.inr (.inr (.inr (fun _ => none)))))))
      else if q.1 = 6 then am_nx 3 len pc L (.ref w.1 :: S) (am_al w n.toNatClampNeg (.inl (4, n.toNatClampNeg, .inr (.inr (.inr (.inr (fun _ => none))))))) else none
    | _, _ => none
  | .invokevirtual i => match am_lq M.1 i am_tM with
    | some q => if q.1 = 0 ∧ len = 3 then (match am_pop q.2.2.1 S [] with
      | some (as, .ref r :: S) => if am_isO q.2.2.2.1 (am_rd w r) && am_rs S then some (.inr (.inr (am_mt q.2.1, .ref r :: as, pc + 3, L, S, w))) else none
      | _ => none) else none
    | none => none
  | .invokestatic i => match am_lq M.1 i am_tM with
    | some q => if q.1 = 1 ∧ len = 3 then (match am_pop q.2.2.1 S [] with
      | some (as, S) => if am_rs S then some (.inr (.inr (am_mt q.2.1, as, pc + 3, L, S, w))) else none
      | _ => none) else if q.1 = 4 ∧ len = 3 then (match S with
      | .int n :: .int dp :: .ref b :: .int sp :: .ref a :: S => (match am_cp (am_rd w a) sp (am_rd w b) dp n with
        | some c => if am_rs S then some (.inr (.inl (pc + 3, L, S, am_wr w b c))) else none
        | none => none)
      | _ => none) else if q.1 = 5 ∧ len = 3 then (match S with
      | .int y :: .int x :: S => if am_rs S then some (.inr (.inl (pc + 3, L, .int (if x < y then y else x) :: S, w))) else none
      | _ => none) else if q.1 = 6 ∧ len = 3 then (match S with
      | .int y :: .int x :: S => if am_rs S then some (.inr (.inl (pc + 3, L, .int (if y < x then y else x) :: S, w))) else none
      | _ => none) else if q.1 = 7 ∧ len = 3 then (match S with
      | .int x :: S => if am_rs S then some (.inr (.inl (pc + 3, L, .int (if 0 ≤ x then x else 0 - x) :: S, w))) else none
      | _ => none) else none
    | none => none
  | .invokespecial i => match am_lq M.1 i am_tM with
    | some q => if q.1 = 2 ∧ len = 3 then (match am_pop q.2.2.1 S [] with
      | some (as, .ref r :: S) => if am_rs S then some (.inr (.inr (am_mt q.2.1, .ref r :: as, pc + 3, L, S, w))) else none
      | _ => none) else if q.1 = 3 ∧ len = 3 then (match S with
      | .ref _ :: S => if am_rs S then some (.inr (.inl (pc + 3, L, S, w))) else none
      | _ => none) else none
    | none => none
  | .ireturn => match S with
    | [.int x] => if len = 1 ∧ (M.2.2.2.2 = some .int ∨ (M.2.2.2.2 = some .boolean ∧ (x = 0 ∨ x = 1))) then some (.inl (some (.int x), w)) else none
    | _ => none
  | .lreturn => match S with
    | [.long x] => if len = 1 ∧ M.2.2.2.2 = some .long then some (.inl (some (.long x), w)) else none
    | _ => none
  | .areturn => match S with
    | [.ref x] => if len = 1 ∧ M.2.2.2.2 = some (.array .int) then some (.inl (some (.ref x), w)) else none
    | _ => none
  | .return_ => if len = 1 ∧ M.2.2.2.2 = none ∧ S = [] then some (.inl (none, w)) else none
  | _ => none
def am_act (X : Nat × (Nat → Int32)) (M : am_M) (pc : Nat) (L S : List Value) (w : am_W) : am_O := match decode M.2.2.1 pc with
  | .ok q => am_ins X M pc q.2 L S w q.1
  | .error _ => none
/-- a method from a place on, by so many steps, its calls by a function -/
def am_lp (X : Nat × (Nat → Int32)) (call : am_M → List Value → am_W → Option am_R) : Nat → am_M → Nat → List Value → List Value → am_W → Option am_R
  | 0, _, _, _, _, _ => none
  | n + 1, M, pc, L, S, w => match am_act X M pc L S w with
    | none => none
    | some (.inl r) => some r
    | some (.inr (.inl (pc', L', S', w'))) => am_lp X call n M pc' L' S' w'
    | some (.inr (.inr (M', as, pc', L', S', w'))) => match call M' as w' with
      | none => none
      | some (r, w2) => am_lp X call n M pc' L' (r.toList ++ S') w2
def am_cl (X : Nat × (Nat → Int32)) (n : Nat) : Nat → am_M → List Value → am_W → Option am_R
  | 0, _, _, _ => none
  | d + 1, M, as, w => if (am_sL as).length ≤ M.2.2.2.1 then am_lp X (am_cl X n d) n M 0 (am_L0 M.2.2.2.1 as) [] w else none

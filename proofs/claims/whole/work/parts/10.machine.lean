/-! THE ABSTRACT MACHINE: a world of cells by number; a method's step as a function; references are cells' numbers (.ref), the arrays from outside are .float -/
abbrev am_C : Type := (Nat × vp_A) ⊕ (Nat × List Value)
abbrev am_W : Type := Nat × Nat × (Nat → am_C)
/-- a method: its class's number, name, code, locals, answer -/
abbrev am_M : Type := Nat × MethodName × ByteArray × Nat × Option FieldType
abbrev am_R : Type := Option Value × am_W
abbrev am_O : Type := Option (am_R ⊕ (Nat × List Value × List Value × am_W) ⊕ (am_M × List Value × Nat × List Value × List Value × am_W))
def am_rd (w : am_W) (r : Nat) : am_C := w.2.2 r
def am_wr (w : am_W) (r : Nat) (c : am_C) : am_W := (w.1, w.2.1, fun j => if j = r then c else w.2.2 j)
def am_al (w : am_W) (n : Nat) (c : am_C) : am_W := (w.1 + 1, w.2.1 + n, fun j => if j = w.1 then c else w.2.2 j)
def am_in (i : Int32) (n : Nat) : Bool := !(decide (i < 0)) && decide (i.toNatClampNeg < n)
def am_isO (ci : Nat) (c : am_C) : Bool := match c with
  | .inr o => o.1 == ci
  | .inl _ => false
def am_isF (ci k : Nat) (c : am_C) : Bool := match c with
  | .inr o => o.1 == ci && decide (k < o.2.length)
  | .inl _ => false
def am_fld (k : Nat) (c : am_C) : Value := match c with
  | .inr o => o.2.getD k .null
  | .inl _ => .null
def am_put (k : Nat) (c : am_C) (v : Value) : am_C := match c with
  | .inr o => .inr (o.1, o.2.set k v)
  | .inl a => .inl a
def am_isI (t : Nat) (c : am_C) (i : Int32) : Bool := match c with
  | .inl (t', n, .inl _) => t' == t && am_in i n
  | _ => false
def am_geI (c : am_C) (i : Int32) : Int32 := match c with
  | .inl (_, _, .inl f) => f i.toNatClampNeg
  | _ => 0
def am_seI (c : am_C) (i x : Int32) : am_C := match c with
  | .inl (t, n, .inl f) => .inl (t, n, .inl (upd f i.toNatClampNeg x))
  | c => c
def am_isJ (t : Nat) (c : am_C) (i : Int32) : Bool := match c with
  | .inl (t', n, .inr (.inl _)) => t' == t && am_in i n
  | _ => false
def am_geJ (c : am_C) (i : Int32) : Int64 := match c with
  | .inl (_, _, .inr (.inl f)) => f i.toNatClampNeg
  | _ => 0
def am_seJ (c : am_C) (i : Int32) (x : Int64) : am_C := match c with
  | .inl (t, n, .inr (.inl f)) => .inl (t, n, .inr (.inl (vp_updL f i.toNatClampNeg x)))
  | c => c
def am_isA (c : am_C) (i : Int32) : Bool := match c with
  | .inl (t, n, .inr (.inr (.inr (.inr _)))) => (t == 3 || t == 4) && am_in i n
  | _ => false
def am_geA (c : am_C) (i : Int32) : Value := match c with
  | .inl (_, _, .inr (.inr (.inr (.inr f)))) => va_rf (f i.toNatClampNeg)
  | _ => .null
def am_seA (c : am_C) (i : Int32) (r : Nat) : am_C := match c with
  | .inl (t, n, .inr (.inr (.inr (.inr f)))) => .inl (t, n, .inr (.inr (.inr (.inr (va_up f i.toNatClampNeg (some r))))))
  | c => c
/-- the class of an array of references' elements -/
def am_el (c : am_C) : Nat := match c with
  | .inl (t, _) => if t = 3 then 8 else if t = 4 then 6 else 1000
  | _ => 1000
def am_isL (c : am_C) : Bool := match c with
  | .inl (t, _, _) => decide (t < 5)
  | .inr _ => false
def am_len (c : am_C) : Int32 := match c with
  | .inl (_, n, _) => Int32.ofNat n
  | .inr _ => 0
def am_lk {α : Type} (n : Nat) : List (Nat × α) → Option α
  | [] => none
  | (k, a) :: l => if Nat.beq k n then some a else am_lk n l
def am_lq {α : Type} (a b : Nat) (l : List (Nat × α)) : Option α := if Nat.blt b 10000 then am_lk (a * 10000 + b) l else none
/-- what static arrays hold -/
def am_sA : UInt32 → List Int32 := fun k => if k = 1 then [0, 0, 1, 0, 0] else if k = 2 then [9, 9, 50, 31, 9] else if k = 3 then [4, 0, 1, 2, 3] else if k = 4 then [-1, 0, 0, 2, 1, 3, 0, 4] else if k = 5 then [1, 10, 11, 2, 20, 0, 0, 0, 0, 30, 0, 0, 0, 41, 40, 0, 0, 0, 50, 0, 0, 0, 0, 60, 70, 0, 0, 0, 0, 80, 0, 81] else []
def am_out (X : Nat × (Nat → Int32)) (k : UInt32) : Nat × (Nat → Int32) := if k = 0 then X else ((am_sA k).length, fun j => (am_sA k).getD j 0)
def am_nx (k len pc : Nat) (L S : List Value) (w : am_W) : am_O := if len = k then some (.inr (.inl (pc + k, L, S, w))) else none
def am_jp (pc : Nat) (off : Int) (L S : List Value) (w : am_W) : am_O := if 0 ≤ (pc : Int) + off then some (.inr (.inl (((pc : Int) + off).toNat, L, S, w))) else none
def am_br (len pc : Nat) (off : Int) (b : Bool) (L S : List Value) (w : am_W) : am_O := if len = 3 ∧ 0 ≤ (pc : Int) + off then some (.inr (.inl (if b then ((pc : Int) + off).toNat else pc + 3, L, S, w))) else none
def am_i2 (f : Int32 → Int32 → Int32) (len pc : Nat) (L S : List Value) (w : am_W) : am_O := match S with
  | .int y :: .int x :: S => am_nx 1 len pc L (.int (f x y) :: S) w
  | _ => none
def am_l2 (f : Int64 → Int64 → Int64) (len pc : Nat) (L S : List Value) (w : am_W) : am_O := match S with
  | .long y :: .long x :: S => am_nx 1 len pc L (.long (f x y) :: S) w
  | _ => none
def am_i1 (f : Int32 → Value) (len pc : Nat) (L S : List Value) (w : am_W) : am_O := match S with
  | .int x :: S => am_nx 1 len pc L (f x :: S) w
  | _ => none
def am_cmp (c : ClassFile.Cond) (x y : Int32) : Bool := match c with
  | .eq => decide (x = y)
  | .ne => !decide (x = y)
  | .lt => decide (x < y)
  | .ge => decide (y ≤ x)
  | .gt => decide (y < x)
  | .le => decide (x ≤ y)
def am_ld (i k len pc : Nat) (L S : List Value) (w : am_W) : am_O := match L[i]? with
  | some (.int x) => am_nx k len pc L (.int x :: S) w
  | _ => none
def am_ll (i k len pc : Nat) (L S : List Value) (w : am_W) : am_O := match L[i]?, L[i + 1]? with
  | some (.long x), some (.retAddr _) => am_nx k len pc L (.long x :: S) w
  | _, _ => none
def am_la (i k len pc : Nat) (L S : List Value) (w : am_W) : am_O := match L[i]? with
  | some (.ref x) => am_nx k len pc L (.ref x :: S) w
  | some (.float x) => am_nx k len pc L (.float x :: S) w
  | _ => none
def am_si (i k len pc : Nat) (L S : List Value) (w : am_W) : am_O := match S with
  | .int x :: S => if i < L.length then am_nx k len pc (L.set i (.int x)) S w else none
  | _ => none
def am_sl (i k len pc : Nat) (L S : List Value) (w : am_W) : am_O := match S with
  | .long x :: S => if i + 1 < L.length then am_nx k len pc ((L.set i (.long x)).set (i + 1) (.retAddr 0)) S w else none
  | _ => none
def am_sa (i k len pc : Nat) (L S : List Value) (w : am_W) : am_O := match S with
  | .ref x :: S => if i < L.length then am_nx k len pc (L.set i (.ref x)) S w else none
  | .float x :: S => if i < L.length then am_nx k len pc (L.set i (.float x)) S w else none
  | _ => none
/-- System.arraycopy over two rows of one kind -/
def am_cp (a : am_C) (sp : Int32) (b : am_C) (dp n : Int32) : Option am_C := match a, b with
  | .inl (t, n0, .inl f), .inl (t', n1, .inl g) => if t = 0 ∧ t' = 0 ∧ ¬ sp < 0 ∧ ¬ dp < 0 ∧ ¬ n < 0 ∧ sp.toNatClampNeg + n.toNatClampNeg ≤ n0 ∧ dp.toNatClampNeg + n.toNatClampNeg ≤ n1 then some (.inl (t', n1, .inl (va_cpy f g sp.toNatClampNeg dp.toNatClampNeg n.toNatClampNeg))) else none
  | .inl (t, n0, .inr (.inl f)), .inl (t', n1, .inr (.inl g)) => if t = 1 ∧ t' = 1 ∧ ¬ sp < 0 ∧ ¬ dp < 0 ∧ ¬ n < 0 ∧ sp.toNatClampNeg + n.toNatClampNeg ≤ n0 ∧ dp.toNatClampNeg + n.toNatClampNeg ≤ n1 then some (.inl (t', n1, .inr (.inl (va_cpy f g sp.toNatClampNeg dp.toNatClampNeg n.toNatClampNeg)))) else none
  | _, _ => none
/-- what stands below a call's arguments is small -/
def am_rs (S : List Value) : Bool := Nat.ble S.length 4 || (S.all (fun v => v.category == 1) && Nat.ble S.length 8)
/-- the arguments of a call off the stack: n of them, the last on top -/
def am_pop : Nat → List Value → List Value → Option (List Value × List Value)
  | 0, S, acc => some (acc, S)
  | _ + 1, [], _ => none
  | n + 1, v :: S, acc => am_pop n S (v :: acc)
/-- the locals with which a method begins -/
def am_sL : List Value → List Value
  | [] => []
  | v :: vs => if v.category = 2 then v :: .retAddr 0 :: am_sL vs else v :: am_sL vs
def am_L0 (n : Nat) (vs : List Value) : List Value := am_sL vs ++ List.replicate (n - (am_sL vs).length) (.retAddr 0)

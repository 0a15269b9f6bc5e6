/-! THE LAW AS A TEXT: what a text is and what it gives, by place -/
abbrev NM : Type := Nat → Int32
abbrev VF : Type := NM → Int32
abbrev PR : Type := Nat × Option VF
section LD
variable (t : Nat → Int32) (n : Nat)
def lc (p : Nat) : Int32 := if p < n then t p else -1
def isDg (x : Int32) : Prop := ¬ x < 48 ∧ ¬ 57 < x
def pDig : Nat → Nat → Int32 → Nat × Int32
  | 0, p, a => (p, a)
  | k + 1, p, a => if ¬ lc t n p < 48 ∧ ¬ 57 < lc t n p then pDig k (p + 1) (a * 10 + lc t n p - 48) else (p, a)
def pName (x : Int32) : Option Nat := if x = 115 then some 0 else if x = 116 then some 1 else if x = 109 then some 2 else if x = 102 then some 3 else if x = 105 then some 4 else if x = 119 then some 5 else none
/-- one after the other by signs -/
def pLp (sub : Nat → PR) (sep : Int32 → Bool) (op : Int32 → Int32 → Int32 → Int32) : Nat → Nat → VF → PR
  | 0, p, v => (p, some v)
  | k + 1, p, v => if sep (lc t n p) = true then (match (sub (p + 1)).2 with
    | none => ((sub (p + 1)).1, none)
    | some v2 => pLp sub sep op k (sub (p + 1)).1 (fun nm => op (lc t n p) (v nm) (v2 nm))) else (p, some v)
def pLv (sub : Nat → PR) (sep : Int32 → Bool) (op : Int32 → Int32 → Int32 → Int32) (p : Nat) : PR := match (sub p).2 with
  | none => ((sub p).1, none)
  | some v => pLp t n sub sep op 120 (sub p).1 v
def sgP (c : Int32) : Bool := decide (c = 42) || decide (c = 47) || decide (c = 37)
def opP (c a b : Int32) : Int32 := if c = 42 then a * b else if b = 0 then 0 else if c = 47 then a / b else a - a / b * b
def sgS (c : Int32) : Bool := decide (c = 43) || decide (c = 45)
def opS (c a b : Int32) : Int32 := if c = 43 then a + b else a - b
def sgB (c : Int32) : Bool := decide (c = 60) || decide (c = 61) || decide (c = 62)
def opB (c a b : Int32) : Int32 := if c = 60 then (if a < b then 1 else 0) else if c = 61 then (if a = b then 1 else 0) else (if b < a then 1 else 0)
def sgA (c : Int32) : Bool := decide (c = 38)
def opA (_ a b : Int32) : Int32 := if a = 0 then 0 else if b = 0 then 0 else 1
def sgE (c : Int32) : Bool := decide (c = 124)
def opE (_ a b : Int32) : Int32 := if a = 0 then (if b = 0 then 0 else 1) else 1
def pPf (o : Nat → PR) : Nat → PR := pLv t n o sgP opP
def pSf (o : Nat → PR) : Nat → PR := pLv t n (pPf t n o) sgS opS
def pBf (o : Nat → PR) (p : Nat) : PR := match (pSf t n o p).2 with
  | none => ((pSf t n o p).1, none)
  | some v => if sgB (lc t n (pSf t n o p).1) = true then (match (pSf t n o ((pSf t n o p).1 + 1)).2 with
    | none => ((pSf t n o ((pSf t n o p).1 + 1)).1, none)
    | some v2 => ((pSf t n o ((pSf t n o p).1 + 1)).1, some (fun nm => opB (lc t n (pSf t n o p).1) (v nm) (v2 nm)))) else ((pSf t n o p).1, some v)
def pAf (o : Nat → PR) : Nat → PR := pLv t n (pBf t n o) sgA opA
def pEf (o : Nat → PR) : Nat → PR := pLv t n (pAf t n o) sgE opE
/-- r: how many of ( ! - may still be opened -/
def pLeaf (p : Nat) : Option PR := if ¬ lc t n p < 48 ∧ ¬ 57 < lc t n p then some ((pDig t n 4 p 0).1, some (fun _ => (pDig t n 4 p 0).2)) else (match pName (lc t n p) with
  | some k => some (p + 1, some (fun nm => nm k))
  | none => none)
def pIn (o : Nat → PR) (p : Nat) : PR := match (pEf t n o (p + 1)).2 with
  | none => ((pEf t n o (p + 1)).1, none)
  | some v => if lc t n (pEf t n o (p + 1)).1 = 41 then ((pEf t n o (p + 1)).1 + 1, some v) else ((pEf t n o (p + 1)).1, none)
def pSg (o : Nat → PR) (p : Nat) : PR := match (o (p + 1)).2 with
  | none => ((o (p + 1)).1, none)
  | some v => ((o (p + 1)).1, some (fun nm => if lc t n p = 33 then (if v nm = 0 then 1 else 0) else - v nm))
def pO : Nat → Nat → PR
  | 0, p => (pLeaf t n p).getD (p, none)
  | r + 1, p => (pLeaf t n p).getD (if lc t n p = 40 then pIn t n (pO r) p else if lc t n p = 33 ∨ lc t n p = 45 then pSg t n (pO r) p else (p, none))
def pE (p : Nat) : PR := pEf t n (pO t n 6) p
abbrev LN : Type := Option VF × VF
def pLine (p : Nat) : Nat × Option LN := match (pE t n p).2 with
  | none => ((pE t n p).1, none)
  | some v => if lc t n (pE t n p).1 = 63 then (match (pE t n ((pE t n p).1 + 1)).2 with
    | none => ((pE t n ((pE t n p).1 + 1)).1, none)
    | some v2 => ((pE t n ((pE t n p).1 + 1)).1, some (some v, v2))) else ((pE t n p).1, some (none, v))
def pLs : Nat → Nat → List LN → Nat × Option (List LN)
  | 0, p, l => (p, some l)
  | k + 1, p, l => if lc t n p = 59 then (match (pLine t n (p + 1)).2 with
    | none => ((pLine t n (p + 1)).1, none)
    | some x => pLs k (pLine t n (p + 1)).1 (l ++ [x])) else (p, some l)
def pText : Nat × Option (List LN) := match (pLine t n 0).2 with
  | none => ((pLine t n 0).1, none)
  | some x => pLs t n 120 (pLine t n 0).1 [x]
end LD
/-- what lines give -/
def lnV : List LN → VF
  | [], _ => 0
  | (none, v) :: _, nm => v nm
  | (some c, v) :: r, nm => if c nm = 0 then lnV r nm else v nm
def gDef : VF := fun nm => nm 0 / 4 - nm 1 / 10 + (if 0 < nm 0 then nm 3 / 5 else 0)
/-! the steps of a stack -/
def xJoin (s a b : Int32) : Int32 := if s = -9 then a * b else if s = -10 then (if b = 0 then 0 else a / b) else if s = -11 then (if b = 0 then 0 else a - a / b * b) else if s = -12 then a + b else if s = -13 then a - b else if s = -14 then (if a < b then 1 else 0) else if s = -15 then (if a = b then 1 else 0) else if s = -16 then (if b < a then 1 else 0) else if s = -17 then (if a = 0 then 0 else if b = 0 then 0 else 1) else if a = 0 then (if b = 0 then 0 else 1) else 1
abbrev XS : Type := Nat × (Nat → Int32)
def xStep (nm : NM) (s : Int32) (q : XS) : XS := if s < -6 then (if s < -8 then (if 2 ≤ q.1 then (q.1 - 1, upd q.2 (q.1 - 2) (xJoin s (q.2 (q.1 - 2)) (q.2 (q.1 - 1)))) else q) else (if 1 ≤ q.1 then (q.1, upd q.2 (q.1 - 1) (if s = -8 then - q.2 (q.1 - 1) else if q.2 (q.1 - 1) = 0 then 1 else 0)) else q)) else (if q.1 < 120 then (q.1 + 1, upd q.2 q.1 (if s < 0 then nm (-1 - s).toNatClampNeg else s)) else q)
def xRun (st : Nat → Int32) (nm : NM) : Nat → Nat → XS → XS
  | 0, _, q => q
  | k + 1, a, q => xRun st nm k (a + 1) (xStep nm (st a) q)
/-- steps a to b push just the value v -/
def xVal (st : Nat → Int32) (a b : Nat) (v : VF) : Prop := a < b ∧ ∀ (nm : NM) (top : Nat) (f : Nat → Int32), top + (b - a) ≤ 120 → ∃ f', xRun st nm (b - a) a (top, f) = (top + 1, f') ∧ f' top = v nm ∧ ∀ j, j < top → f' j = f j
theorem xRun_add (st : Nat → Int32) (nm : NM) : ∀ (k m a : Nat) (q : XS), xRun st nm (k + m) a q = xRun st nm m (a + k) (xRun st nm k a q)
  | 0, m, a, q => by simp [xRun]
  | k + 1, m, a, q => by
    rw [show k + 1 + m = (k + m) + 1 by omega]
    show xRun st nm (k + m) (a + 1) _ = xRun st nm m (a + (k + 1)) (xRun st nm k (a + 1) _)
    rw [xRun_add st nm k m (a + 1), show a + 1 + k = a + (k + 1) by omega]
theorem xRun_congr {st st' : Nat → Int32} (nm : NM) : ∀ (k a : Nat) (q : XS), (∀ j, a ≤ j → j < a + k → st' j = st j) → xRun st' nm k a q = xRun st nm k a q
  | 0, _, _, _ => rfl
  | k + 1, a, q, h => by
    show xRun st' nm k (a + 1) (xStep nm (st' a) q) = xRun st nm k (a + 1) (xStep nm (st a) q)
    rw [h a (Nat.le_refl _) (by omega), xRun_congr nm k (a + 1) _ (fun j h1 h2 => h j (by omega) (by omega))]
theorem xVal.congr {st st' : Nat → Int32} {a b : Nat} {v : VF} (h : xVal st a b v) (e : ∀ j, a ≤ j → j < b → st' j = st j) : xVal st' a b v := ⟨h.1, fun nm top f q => by
  rw [xRun_congr nm (b - a) a (top, f) (fun j h1 h2 => e j h1 (by have := h.1; omega))]
  exact h.2 nm top f q⟩
theorem xVal.leaf {st : Nat → Int32} {a : Nat} {v : VF} (h0 : ¬ st a < -6) (h : ∀ nm : NM, (if st a < 0 then nm (-1 - st a).toNatClampNeg else st a) = v nm) : xVal st a (a + 1) v := ⟨by omega, fun nm top f q => by
  rw [show a + 1 - a = 1 by omega] at q ⊢
  refine ⟨upd f top (v nm), ?_, ?_, fun j hj => ?_⟩
  · show xStep nm (st a) (top, f) = _
    unfold xStep
    rw [if_neg h0, if_pos (by show top < 120; omega), h nm]
  · simp [upd]
  · simp [upd, show ¬ j = top by omega]⟩
theorem xVal.un {st : Nat → Int32} {a b : Nat} {v u : VF} (h : xVal st a b v) (h1 : st b < -6) (h2 : ¬ st b < -8) (e : ∀ nm, (if st b = -8 then - v nm else if v nm = 0 then 1 else 0) = u nm) : xVal st a (b + 1) u := ⟨by have := h.1; omega, fun nm top f q => by
  have hab := h.1
  obtain ⟨f', g1, g2, g3⟩ := h.2 nm top f (by omega)
  rw [show b + 1 - a = (b - a) + 1 by omega, xRun_add, g1, show a + (b - a) = b by omega]
  refine ⟨upd f' top (u nm), ?_, ?_, fun j hj => ?_⟩
  · show xStep nm (st b) (top + 1, f') = _
    unfold xStep
    rw [if_pos h1, if_neg h2, if_pos (by show 1 ≤ top + 1; omega)]
    simp only [Nat.add_sub_cancel, g2, e nm]
  · simp [upd]
  · simp [upd, show ¬ j = top by omega, g3 j hj]⟩
theorem xVal.bin {st : Nat → Int32} {a b c : Nat} {v u x : VF} (h : xVal st a b v) (k : xVal st b c u) (h1 : st c < -8) (e : ∀ nm, xJoin (st c) (v nm) (u nm) = x nm) : xVal st a (c + 1) x := ⟨by have := h.1; have := k.1; omega, fun nm top f q => by
  have hab := h.1
  have hbc := k.1
  obtain ⟨f', g1, g2, g3⟩ := h.2 nm top f (by omega)
  obtain ⟨f2, k1, k2, k3⟩ := k.2 nm (top + 1) f' (by omega)
  rw [show c + 1 - a = (b - a) + ((c - b) + 1) by omega, xRun_add, g1, show a + (b - a) = b by omega, xRun_add, k1, show b + (c - b) = c by omega]
  refine ⟨upd f2 top (x nm), ?_, ?_, fun j hj => ?_⟩
  · show xStep nm (st c) (top + 1 + 1, f2) = _
    unfold xStep
    rw [if_pos (Int32.lt_trans h1 (by decide)), if_pos h1, if_pos (by show 2 ≤ top + 1 + 1; omega)]
    simp only [Nat.add_sub_cancel, show top + 1 + 1 - 2 = top by omega, k2, k3 top (by omega), g2, e nm]
  · simp [upd]
  · simp [upd, show ¬ j = top by omega, k3 j (by omega), g3 j hj]⟩
/-- the law, as the class and as the reference have it: what it gives is G -/
def cLns (st fe en : Nat → Int32) (l : List LN) : Prop := ∃ fr mi : Nat → Nat, fr 0 = 0 ∧ ∀ j, j < l.length → fe j = nI (mi j) ∧ en j = nI (fr (j + 1)) ∧ fr (j + 1) ≤ 120 ∧ fr j ≤ mi j ∧ (∀ x, l[j]? = some x → (match x.1 with
  | none => mi j = fr j
  | some c => xVal st (fr j) (mi j) c) ∧ xVal st (mi j) (fr (j + 1)) x.2)
def cLaw (G : VF) (st fe en : Nat → Int32) (ln : Int32) : Prop := (ln = 0 ∧ G = gDef) ∨ ∃ l : List LN, 0 < l.length ∧ l.length ≤ 60 ∧ ln = nI l.length ∧ G = lnV l ∧ cLns st fe en l
def rLaw (G : VF) (tx : Nat → Int32) (tn is : Int32) : Prop := (is = 0 ∧ G = gDef) ∨ (is = 1 ∧ ∃ (n : Nat) (t : Nat → Int32) (l : List LN), n ≤ 120 ∧ tn = nI n ∧ (∀ j, j < n → tx j = t j) ∧ pText t n = (n, some l) ∧ G = lnV l)

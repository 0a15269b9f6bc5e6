/-! RUNS' ENDS: what a run comes to; frames -/
abbrev TI : Type := Nat → Nat → Int32
abbrev TJ : Type := Nat → Nat → Int64
def am_T (o : Option am_R) (Q : Option Value → am_W → Prop) : Prop := ∃ v w, o = some (v, w) ∧ Q v w
def oQ (R : Option Value → TI → TI → TJ → Prop) (v : Option Value) (w : am_W) : Prop := ∃ I A J, w = am_wd I A J ∧ R v I A J
def oI (r : Int32) (F : TI → TI → TJ → Prop) : Option Value → am_W → Prop := oQ (fun v I A J => v = some (.int r) ∧ F I A J)
def oL (r : Int64) (F : TI → TI → TJ → Prop) : Option Value → am_W → Prop := oQ (fun v I A J => v = some (.long r) ∧ F I A J)
def oU (F : TI → TI → TJ → Prop) : Option Value → am_W → Prop := oQ (fun v I A J => v = none ∧ F I A J)
def oE (R : Int32 → TI → TI → TJ → Prop) : Option Value → am_W → Prop := oQ (fun v I A J => ∃ r, v = some (.int r) ∧ R r I A J)
section EN
variable {X : Nat × (Nat → Int32)} {d : Nat} {M : am_M} {pc : Nat} {L S : List Value} {o : Option am_R} {Q Q' : Option Value → am_W → Prop} {I A I1 A1 I2 A2 I' A' : TI} {J J1 J2 J' : TJ}
theorem am_T.mono (h : am_T o Q) (k : ∀ v w, Q v w → Q' v w) : am_T o Q' := by
  obtain ⟨v, w, h1, h2⟩ := h
  exact ⟨v, w, h1, k v w h2⟩
theorem am_T.ite {P : Prop} {h : Decidable P} {a b : Option am_R} (h1 : P → am_T a Q) (h2 : ¬ P → am_T b Q) : am_T (if P then a else b) Q := by
  by_cases q : P
  · rw [if_pos q]; exact h1 q
  · rw [if_neg q]; exact h2 q
theorem am_T.rt {R : Option Value → am_W → Prop} (h : am_T o R) (k : ∀ v w, R v w → am_T (am_EV X d M pc L (v.toList ++ S) w) Q) : am_T (am_rt X d o M pc L S) Q := by
  obtain ⟨v, w, h1, h2⟩ := h
  rw [h1]
  exact k v w h2
theorem am_T.rtI {r : Int32} {F : TI → TI → TJ → Prop} (h : am_T o (oI r F)) (k : ∀ I A J, F I A J → am_T (am_EV X d M pc L (.int r :: S) (am_wd I A J)) Q) : am_T (am_rt X d o M pc L S) Q := by
  obtain ⟨v, w, h1, I, A, J, rfl, rfl, h2⟩ := h
  rw [h1]
  exact k I A J h2
theorem am_T.rtL {r : Int64} {F : TI → TI → TJ → Prop} (h : am_T o (oL r F)) (k : ∀ I A J, F I A J → am_T (am_EV X d M pc L (.long r :: S) (am_wd I A J)) Q) : am_T (am_rt X d o M pc L S) Q := by
  obtain ⟨v, w, h1, I, A, J, rfl, rfl, h2⟩ := h
  rw [h1]
  exact k I A J h2
theorem am_T.rtU {F : TI → TI → TJ → Prop} (h : am_T o (oU F)) (k : ∀ I A J, F I A J → am_T (am_EV X d M pc L S (am_wd I A J)) Q) : am_T (am_rt X d o M pc L S) Q := by
  obtain ⟨v, w, h1, I, A, J, rfl, rfl, h2⟩ := h
  rw [h1]
  exact k I A J h2
theorem am_T.rtE {R : Int32 → TI → TI → TJ → Prop} (h : am_T o (oE R)) (k : ∀ r I A J, R r I A J → am_T (am_EV X d M pc L (.int r :: S) (am_wd I A J)) Q) : am_T (am_rt X d o M pc L S) Q := by
  obtain ⟨v, w, h1, I, A, J, rfl, r, rfl, h2⟩ := h
  rw [h1]
  exact k r I A J h2
theorem am_T.ri {r : Int32} {F : TI → TI → TJ → Prop} (h : F I A J) : am_T (some (some (.int r), am_wd I A J)) (oI r F) := ⟨_, _, rfl, I, A, J, rfl, rfl, h⟩
theorem am_T.ri' {r r' : Int32} {F : TI → TI → TJ → Prop} (e : r' = r) (h : F I A J) : am_T (some (some (.int r'), am_wd I A J)) (oI r F) := ⟨_, _, rfl, I, A, J, rfl, by rw [e], h⟩
theorem am_T.re {r : Int32} {R : Int32 → TI → TI → TJ → Prop} (h : R r I A J) : am_T (some (some (.int r), am_wd I A J)) (oE R) := ⟨_, _, rfl, I, A, J, rfl, r, rfl, h⟩
theorem am_T.rl {r : Int64} {F : TI → TI → TJ → Prop} (h : F I A J) : am_T (some (some (.long r), am_wd I A J)) (oL r F) := ⟨_, _, rfl, I, A, J, rfl, rfl, h⟩
theorem am_T.ru {F : TI → TI → TJ → Prop} (h : F I A J) : am_T (some (none, am_wd I A J)) (oU F) := ⟨_, _, rfl, I, A, J, rfl, rfl, h⟩
theorem am_T.monoI {r : Int32} {F F' : TI → TI → TJ → Prop} (h : am_T o (oI r F)) (k : ∀ I A J, F I A J → F' I A J) : am_T o (oI r F') := h.mono fun v w ⟨I, A, J, e, e2, f⟩ => ⟨I, A, J, e, e2, k I A J f⟩
theorem am_T.monoU {F F' : TI → TI → TJ → Prop} (h : am_T o (oU F)) (k : ∀ I A J, F I A J → F' I A J) : am_T o (oU F') := h.mono fun v w ⟨I, A, J, e, e2, f⟩ => ⟨I, A, J, e, e2, k I A J f⟩
/-- what a run leaves as it was: numbers, rows, long rows but those listed -/
def Fr (li : List (Nat × Nat)) (la lj : List Nat) (I A : TI) (J : TJ) (I' A' : TI) (J' : TJ) : Prop := (∀ c k, (c, k) ∉ li → I' c k = I c k) ∧ (∀ c, c ∉ la → A' c = A c) ∧ (∀ c, c ∉ lj → J' c = J c)
variable {li li' : List (Nat × Nat)} {la lj la' lj' : List Nat}
theorem Fr.rf : Fr li la lj I A J I A J := ⟨fun _ _ _ => rfl, fun _ _ => rfl, fun _ _ => rfl⟩
theorem Fr.tr (h1 : Fr li la lj I A J I1 A1 J1) (h2 : Fr li la lj I1 A1 J1 I2 A2 J2) : Fr li la lj I A J I2 A2 J2 := ⟨fun c k h => (h2.1 c k h).trans (h1.1 c k h), fun c h => (h2.2.1 c h).trans (h1.2.1 c h), fun c h => (h2.2.2 c h).trans (h1.2.2 c h)⟩
theorem Fr.mo (h : Fr li la lj I A J I1 A1 J1) (hi : ∀ x ∈ li, x ∈ li') (ha : ∀ x ∈ la, x ∈ la') (hj : ∀ x ∈ lj, x ∈ lj') : Fr li' la' lj' I A J I1 A1 J1 := ⟨fun c k q => h.1 c k fun m => q (hi _ m), fun c q => h.2.1 c fun m => q (ha _ m), fun c q => h.2.2 c fun m => q (hj _ m)⟩
theorem Fr.i (h : Fr li la lj I A J I1 A1 J1) (c k : Nat) (hc : (c, k) ∉ li) : I1 c k = I c k := h.1 c k hc
theorem Fr.a (h : Fr li la lj I A J I1 A1 J1) (c : Nat) (hc : c ∉ la) : A1 c = A c := h.2.1 c hc
theorem Fr.j (h : Fr li la lj I A J I1 A1 J1) (c : Nat) (hc : c ∉ lj) : J1 c = J c := h.2.2 c hc
theorem Fr.ua (h : Fr li la lj I A J I1 A1 J1) {c : Nat} {g : Nat → Int32} (hc : c ∈ la) : Fr li la lj I A J I1 (am_u A1 c g) J1 := ⟨h.1, fun c' q => by
  have hn : c' ≠ c := fun e => q (e ▸ hc)
  simp only [am_u, hn, if_false]
  exact h.2.1 c' q, h.2.2⟩
theorem Fr.uj (h : Fr li la lj I A J I1 A1 J1) {c : Nat} {g : Nat → Int64} (hc : c ∈ lj) : Fr li la lj I A J I1 A1 (am_u J1 c g) := ⟨h.1, h.2.1, fun c' q => by
  have hn : c' ≠ c := fun e => q (e ▸ hc)
  simp only [am_u, hn, if_false]
  exact h.2.2 c' q⟩
theorem Fr.ui (h : Fr li la lj I A J I1 A1 J1) {c k : Nat} {x : Int32} (hc : (c, k) ∈ li) : Fr li la lj I A J (am_u2 I1 c k x) A1 J1 := ⟨fun c' k' q => by
  have hn : ¬ (c' = c ∧ k' = k) := fun e => q (e.1 ▸ e.2 ▸ hc)
  unfold am_u2
  by_cases h1 : c' = c
  · by_cases h2 : k' = k
    · exact absurd ⟨h1, h2⟩ hn
    · rw [if_pos h1, if_neg h2]
      exact h.1 c' k' q
  · rw [if_neg h1]
    exact h.1 c' k' q, h.2.1, h.2.2⟩
end EN
/-! numbers -/
theorem i_of {x : Int32} {n : Nat} (hn : n < 2147483648) (h : ¬ x < 0) (h2 : x < nI n) : ∃ j : Nat, j < n ∧ x = nI j := by
  obtain ⟨j, h1, rfl⟩ := nI_of h
  exact ⟨j, (nI_ltI (by omega) (by omega)).mp h2, rfl⟩
theorem i_ofle {x : Int32} {n : Nat} (hn : n < 2147483648) (h : ¬ x < 0) (h2 : ¬ nI n < x) : ∃ j : Nat, j ≤ n ∧ x = nI j := by
  obtain ⟨j, h1, rfl⟩ := nI_of h
  exact ⟨j, by
    have := mt (nI_ltI (a := n) (b := j) (by omega) (by omega)).mpr h2
    omega, rfl⟩
theorem i_add (a b : Nat) : nI a + nI b = nI (a + b) := nI_add a b
theorem i_mul (a b : Nat) : nI a * nI b = nI (a * b) := by
  unfold nI
  exact (Int32.ofNat_mul a b).symm
theorem i_sub {a b : Nat} (h : b ≤ a) : nI a - nI b = nI (a - b) := by
  have : nI a = nI (a - b) + nI b := by rw [nI_add]; congr 1; omega
  rw [this, Int32.add_sub_cancel]
theorem i_div {a b : Nat} (ha : a < 2147483648) (hb : b < 2147483648) (h0 : 0 < b) : nI a / nI b = nI (a / b) := by
  apply Int32.toInt_inj.mp
  have hd : a / b < 2147483648 := Nat.lt_of_le_of_lt (Nat.div_le_self a b) ha
  rw [Int32.toInt_div_of_ne_left, nI_toInt ha, nI_toInt hb, nI_toInt hd]
  · rfl
  · intro q
    have := congrArg Int32.toInt q
    rw [nI_toInt ha] at this
    have h2 : Int32.minValue.toInt = -2147483648 := by decide
    omega
theorem i_rem {a b : Nat} (ha : a < 2147483648) (hb : b < 2147483648) (h0 : 0 < b) : nI a - nI a / nI b * nI b = nI (a % b) := by
  rw [i_div ha hb h0, i_mul, i_sub (Nat.div_mul_le_self a b)]
  congr 1
  have := Nat.mod_add_div a b
  rw [Nat.mul_comm] at this
  omega
theorem i_lt {a b : Nat} (ha : a < 2147483648) (hb : b < 2147483648) : (nI a < nI b) = (a < b) := propext (nI_ltI ha hb)
theorem i_eq {a b : Nat} (ha : a < 2147483648) (hb : b < 2147483648) : (nI a = nI b) = (a = b) := propext (nI_eq ha hb)
theorem i_le {a b : Nat} (ha : a < 2147483648) (hb : b < 2147483648) : (nI a ≤ nI b) = (a ≤ b) := propext (nI_leI ha hb)

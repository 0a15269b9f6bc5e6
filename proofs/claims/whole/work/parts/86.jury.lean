/-! jury: both -/
section JU
variable {X : Nat × (Nat → Int32)} {d : Nat} {I A : TI} {J : TJ} {w : am_W}
theorem Fr.ieq {la lj : List Nat} {I1 A1 : TI} {J1 : TJ} (h : Fr [] la lj I A J I1 A1 J1) : I1 = I := by
  funext c k; exact h.1 c k List.not_mem_nil
theorem Fr.jeq {li : List (Nat × Nat)} {la : List Nat} {I1 A1 : TI} {J1 : TJ} (h : Fr li la [] I A J I1 A1 J1) : J1 = J := by
  funext c; exact h.2.2 c List.not_mem_nil
def anyB (p : Nat → Bool) : Nat → Bool
  | 0 => false
  | n + 1 => anyB p n || p n
def allB (p : Nat → Bool) : Nat → Bool
  | 0 => true
  | n + 1 => allB p n && p n
theorem anyB_iff {p : Nat → Bool} : ∀ {n : Nat}, anyB p n = true ↔ ∃ j, j < n ∧ p j = true
  | 0 => ⟨fun h => absurd h Bool.false_ne_true, fun ⟨j, hj, _⟩ => absurd hj (Nat.not_lt_zero j)⟩
  | n + 1 => by
    show (anyB p n || p n) = true ↔ _
    rw [Bool.or_eq_true, anyB_iff (n := n)]
    constructor
    · rintro (⟨j, h1, h2⟩ | h)
      · exact ⟨j, by omega, h2⟩
      · exact ⟨n, by omega, h⟩
    · rintro ⟨j, h1, h2⟩
      by_cases q : j = n
      · subst q; exact Or.inr h2
      · exact Or.inl ⟨j, by omega, h2⟩
theorem allB_iff {p : Nat → Bool} : ∀ {n : Nat}, allB p n = true ↔ ∀ j, j < n → p j = true
  | 0 => ⟨fun _ j hj => absurd hj (Nat.not_lt_zero j), fun _ => rfl⟩
  | n + 1 => by
    show (allB p n && p n) = true ↔ _
    rw [Bool.and_eq_true, allB_iff (n := n)]
    constructor
    · rintro ⟨h1, h2⟩ j hj
      by_cases q : j = n
      · subst q; exact h2
      · exact h1 j (by omega)
    · intro h
      exact ⟨fun j hj => h j (by omega), h n (by omega)⟩
theorem anyB_cg {p q : Nat → Bool} {n : Nat} (h : ∀ j, j < n → p j = q j) : anyB p n = anyB q n := by
  induction n with
  | zero => rfl
  | succ n ih => show (anyB p n || p n) = (anyB q n || q n); rw [ih (fun j hj => h j (by omega)), h n (by omega)]
/-- a bit of a number -/
def bt1 (x : Int32) (i : Nat) : Bool := x.toBitVec.getLsbD i
theorem bt1_or (x y : Int32) (i : Nat) : bt1 (x ||| y) i = (bt1 x i || bt1 y i) := by
  unfold bt1; rw [Int32.toBitVec_or, BitVec.getLsbD_or]
theorem bt1_and (x y : Int32) (i : Nat) : bt1 (x &&& y) i = (bt1 x i && bt1 y i) := by
  unfold bt1; rw [Int32.toBitVec_and, BitVec.getLsbD_and]
theorem bt1_0 (x : Int32) : x = 0 ↔ ∀ i, i < 32 → bt1 x i = false := by
  constructor
  · rintro rfl i _
    show (0#32).getLsbD i = false
    exact BitVec.getLsbD_zero
  · intro h
    rw [← Int32.toBitVec_inj]
    refine BitVec.eq_of_getLsbD_eq fun i hi => ?_
    exact (h i hi).trans BitVec.getLsbD_zero.symm
theorem bt1_sl {j : Nat} (hj : j < 8) : ∀ i, i < 32 → bt1 ((1 : Int32) <<< (nI j &&& 31)) i = decide (i = j) := by
  have key : ∀ j, j < 8 → ∀ i, i < 32 → bt1 ((1 : Int32) <<< (nI j &&& 31)) i = decide (i = j) := by decide +kernel
  exact key j hj
theorem bt1_sr {x : Int32} {j : Nat} (hj : j < 8) : ((x >>> (nI j &&& 31)) &&& 1 = 0) ↔ bt1 x j = false := by
  have e : (x >>> (nI j &&& 31)).toBitVec = x.toBitVec.sshiftRight j := by
    rcases (by omega : j = 0 ∨ j = 1 ∨ j = 2 ∨ j = 3 ∨ j = 4 ∨ j = 5 ∨ j = 6 ∨ j = 7) with rfl | rfl | rfl | rfl | rfl | rfl | rfl | rfl <;> rfl
  rw [bt1_0]
  have h1 : ∀ i, bt1 ((x >>> (nI j &&& 31)) &&& 1) i = (bt1 (x >>> (nI j &&& 31)) i && bt1 1 i) := fun i => bt1_and _ _ i
  have h2 : ∀ i, i < 32 → bt1 1 i = decide (i = 0) := by decide +kernel
  have h3 : bt1 (x >>> (nI j &&& 31)) 0 = bt1 x j := by
    unfold bt1
    rw [e, BitVec.getLsbD_sshiftRight]
    simp [show j < 32 by omega]
  constructor
  · intro h
    have := h 0 (by decide)
    rw [h1, h2 0 (by decide), h3] at this
    simpa using this
  · intro h i hi
    rw [h1, h2 i hi]
    by_cases q : i = 0
    · subst q; rw [h3, h]; rfl
    · simp [q]
/-- whom a nose row tells: the bits -/
def whoF (p : Nat → Bool) : Nat → Int32
  | 0 => 0
  | n + 1 => if p n = true then whoF p n ||| ((1 : Int32) <<< (nI n &&& 31)) else whoF p n
theorem whoF_bit {p : Nat → Bool} : ∀ {n : Nat}, n ≤ 8 → ∀ i, i < 32 → bt1 (whoF p n) i = (decide (i < n) && p i)
  | 0, _, i, hi => by
    show bt1 0 i = _
    rw [(bt1_0 0).mp rfl i hi]; rfl
  | n + 1, hn, i, hi => by
    unfold whoF
    have ih := whoF_bit (p := p) (n := n) (by omega) i hi
    by_cases q : p n = true
    · rw [if_pos q, bt1_or, ih, bt1_sl (by omega) i hi]
      by_cases z : i = n
      · subst z; simp [q]
      · have : (i < n + 1) = (i < n) := propext (by omega)
        simp [z, this]
    · rw [if_neg q, ih]
      by_cases z : i = n
      · subst z; simp [q]
      · have : (i < n + 1) = (i < n) := propext (by omega)
        simp [this]
theorem whoF_and {p : Nat → Bool} {n : Nat} (hn : n ≤ 8) (x : Int32) : (¬ whoF p n &&& x = 0) ↔ anyB (fun j => bt1 x j && p j) n = true := by
  rw [anyB_iff, bt1_0]
  constructor
  · intro h
    apply Classical.byContradiction
    intro g
    apply h
    intro i hi
    rw [bt1_and, whoF_bit hn i hi]
    by_cases q : i < n
    · have : ¬ (bt1 x i && p i) = true := fun y => g ⟨i, q, y⟩
      revert this
      cases bt1 x i <;> cases p i <;> simp
    · simp [q]
  · rintro ⟨j, h1, h2⟩ g
    have := g j (by omega)
    rw [bt1_and, whoF_bit hn j (by omega), decide_eq_true h1] at this
    revert this h2
    cases bt1 x j <;> cases p j <;> simp
theorem ab_sym {p q : Nat} (hp : p ≤ 99) (hq : q ≤ 99) : ab (nI p - nI q) = ab (nI q - nI p) := by
  have key : ∀ m, m < 100 → ab (0 - nI m) = ab (nI m) := by decide +kernel
  have e : ∀ a b : Nat, b ≤ a → a ≤ 99 → ab (nI a - nI b) = ab (nI b - nI a) := fun a b h1 h2 => by
    have e1 : nI a - nI b = nI (a - b) := i_sub h1
    have e2 : nI b - nI a = 0 - (nI a - nI b) := by
      rw [Int32.zero_sub, Int32.neg_sub]
    rw [e2, e1, key (a - b) (by omega)]
  by_cases h : q ≤ p
  · exact e p q h hp
  · exact (e q p (by omega) hq).symm
theorem telF_sym {wh kn : Int32} {a b : Nat → Int32} {n : Nat} (h : ∀ j, j < n → in99 (a j) ∧ in99 (b j)) : telF wh kn a b n = telF wh kn b a n := by
  induction n with
  | zero => rfl
  | succ n ih =>
    show (telF wh kn a b n || _) = (telF wh kn b a n || _)
    obtain ⟨⟨a1, a2⟩, b1, b2⟩ := h n (by omega)
    obtain ⟨p, hp, ep⟩ := i_ofle (n := 99) (by decide) a1 a2
    obtain ⟨q, hq, eq⟩ := i_ofle (n := 99) (by decide) b1 b2
    rw [ih (fun j hj => h j (by omega)), ep, eq, ab_sym hp hq]
/-- the fewest -/
def fewF (told : Nat → Bool) : Nat → Int32
  | 0 => -2
  | k + 1 => if (fewF told k = -2 ∨ am_bc (nI k) < am_bc (fewF told k)) ∧ told k = true then nI k else fewF told k
theorem fewF_is {told : Nat → Bool} : ∀ {k : Nat}, fewF told k = -2 ∨ ∃ j, j < k ∧ fewF told k = nI j
  | 0 => Or.inl rfl
  | k + 1 => by
    unfold fewF
    by_cases q : (fewF told k = -2 ∨ am_bc (nI k) < am_bc (fewF told k)) ∧ told k = true
    · rw [if_pos q]; exact Or.inr ⟨k, by omega, rfl⟩
    · rw [if_neg q]
      rcases fewF_is (told := told) (k := k) with h | ⟨j, h1, h2⟩
      · exact Or.inl h
      · exact Or.inr ⟨j, by omega, h2⟩
theorem fewF_cg {t t' : Nat → Bool} : ∀ {k : Nat}, (∀ j, j < k → t j = t' j) → fewF t k = fewF t' k
  | 0, _ => rfl
  | k + 1, h => by
    unfold fewF
    rw [fewF_cg (k := k) (fun j hj => h j (by omega)), h k (by omega)]
theorem bc_9 {k : Nat} (h : k < 256) : am_bc (nI k) < 9 := by
  have key : ∀ k, k < 256 → am_bc (nI k) < 9 := by decide +kernel
  exact key k h
/-- how many soups lie there -/
def nSp (ln : Nat) (b : Nat → Int32) : Nat → Nat → Nat
  | 0, e => e
  | m + 1, e => if sOk ln b (5 * e) 5 = true then nSp ln b m (e + 1) else e
theorem nSp_le {ln : Nat} {b : Nat → Int32} : ∀ (m e : Nat), e ≤ nSp ln b m e ∧ nSp ln b m e ≤ e + m
  | 0, e => ⟨Nat.le_refl _, Nat.le_refl _⟩
  | m + 1, e => by
    unfold nSp
    by_cases q : sOk ln b (5 * e) 5 = true
    · rw [if_pos q]
      have := nSp_le (ln := ln) (b := b) m (e + 1)
      omega
    · rw [if_neg q]
      omega
theorem nSp_ok {ln : Nat} {b : Nat → Int32} : ∀ (m e : Nat), ∀ i, e ≤ i → i < nSp ln b m e → sOk ln b (5 * i) 5 = true
  | 0, e, i, h1, h2 => by
    have : i < e := h2
    omega
  | m + 1, e, i, h1, h2 => by
    unfold nSp at h2
    by_cases q : sOk ln b (5 * e) 5 = true
    · rw [if_pos q] at h2
      by_cases z : i = e
      · subst z; exact q
      · exact nSp_ok (ln := ln) (b := b) m (e + 1) i (by omega) h2
    · rw [if_neg q] at h2; omega
theorem c_soupsOf {k ln : Nat} {b : Nat → Int32} (h : ShB I A J k ln b) : am_T (am_CL X (d + 5) mX5_soupsOf [.ref 36, .ref (69 + 2 * k)] (am_wd I A J)) (oI (nI (nSp ln b 6 0)) fun I' A' J' => Fr [] [39] [] I A J I' A' J' ∧ ∀ e i, e < nSp ln b 6 0 → i < 5 → A' 39 (5 * e + i) = b (5 * e + i)) := by
  have hk := h.1
  have key : ∀ (m e : Nat) (A1 : TI), e + m = 6 → nSp ln b m e = nSp ln b 6 0 → Fr [] [39] [] I A J I A1 J → (∀ o i, o < e → i < 5 → A1 39 (5 * o + i) = b (5 * o + i)) → am_T (am_EV X (d + 4) mX5_soupsOf 4 [.ref 36, .ref (69 + 2 * k), .int (nI e), .int (nI e)] [] (am_wd I A1 J)) (oI (nI (nSp ln b 6 0)) fun I' A' J' => Fr [] [39] [] I A J I' A' J' ∧ ∀ e i, e < nSp ln b 6 0 → i < 5 → A' 39 (5 * e + i) = b (5 * e + i)) := by
    intro m
    induction m with
    | zero =>
      intro e A1 he hn f g
      have e6 : e = 6 := by omega
      subst e6
      simp only [sX5_soupsOf_4, sX5_soupsOf_5, sX5_soupsOf_7, sX5_soupsOf_36, sX5_soupsOf_37, am_rt_some, am_rt_void, am_rt_none, am_rt_ite, ↓reduceIte, if_true, if_false, and_self, true_and, and_true, true_or, or_true, Bool.false_eq_true, reduceCtorEq, show (nI 6 < 6) = False by decide]
      rw [← hn]
      exact am_T.ri ⟨f, fun o i ho hi => g o i ho hi⟩
    | succ m ih =>
      intro e A1 he hn f g
      have hlt : (nI e < 6) = True := by rw [am_nlit (x := 6) 6 rfl (show e < 2147483648 by omega) (by decide)]; exact eq_true (by omega)
      have hB1 : ShB I A1 J k ln b := h.fr f (by decide) (by decide) (by decide)
      have i5 : nI e * 5 = nI (5 * e) := by rw [Nat.mul_comm]; exact i_mul e 5
      rw [sX5_soupsOf_4]
      simp only [sX5_soupsOf_5, sX5_soupsOf_7, sX5_soupsOf_10, sX5_soupsOf_11, sX5_soupsOf_12, sX5_soupsOf_13, sX5_soupsOf_14, sX5_soupsOf_15, sX5_soupsOf_18, wo_36, wf_36_0, wv_36_0, wf_36_1, wv_36_1, wf_36_2, wv_36_2, wp_36_2, wf_36_3, wv_36_3, wf_36_4, wv_36_4, wf_36_5, wv_36_5, wp_36_5, am_rt_some, am_rt_void, am_rt_none, am_rt_ite, ↓reduceIte, if_true, if_false, and_self, true_and, and_true, true_or, or_true, Bool.false_eq_true, reduceCtorEq, hlt, i5, shO hk, shF0 hk, shF1 hk, shF2 hk, shF3 hk, shF4 hk, shV0 hk, shV1 hk, shV2 hk, shV3 hk, shV4 hk, shP0 hk, shP1 hk, shP2 hk, shP3 hk, elI hk, elG hk, elS hk, elW hk, shAi hk, shIn hk]
      refine am_T.rtI (c_giveSoup39 (fr := 5 * e) hB1 (by omega)) ?_
      intro I2 A2 J2 ⟨f2, g1, g2⟩
      have hn' : nSp ln b (m + 1) e = if sOk ln b (5 * e) 5 = true then nSp ln b m (e + 1) else e := rfl
      have F2 := f.tr f2
      cases ok : sOk ln b (5 * e) 5 with
      | false =>
        rw [ok] at hn'
        simp only [Bool.false_eq_true, if_false] at hn' ⊢
        simp only [sX5_soupsOf_21, sX5_soupsOf_24, sX5_soupsOf_36, sX5_soupsOf_37, not_true_eq_false, not_false_eq_true, false_and, and_false, true_and, and_true, and_self, or_self, true_or, or_true, false_or, or_false, ite_self, kEm14_m11, kEm14_m2, kEm14_m1, kEm14_0, kEm14_1, kEm14_2, kEm14_3, kEm14_4, kEm13_m11, kEm13_m2, kEm13_m1, kEm13_0, kEm13_1, kEm13_2, kEm13_3, kEm13_4, kEm12_m11, kEm12_m2, kEm12_m1, kEm12_0, kEm12_1, kEm12_2, kEm12_3, kEm12_4, kEm11_m2, kEm11_m1, kEm11_0, kEm11_1, kEm11_2, kEm11_3, kEm11_4, kEm5_m11, kEm5_m2, kEm5_m1, kEm5_0, kEm5_1, kEm5_2, kEm5_3, kEm5_4, kEm3_m11, kEm3_m2, kEm3_m1, kEm3_0, kEm3_1, kEm3_2, kEm3_3, kEm3_4, kEm2_m11, kEm2_m1, kEm2_0, kEm2_1, kEm2_2, kEm2_3, kEm2_4, kEm1_m11, kEm1_m2, kEm1_0, kEm1_1, kEm1_2, kEm1_3, kEm1_4, kE0_m11, kE0_m2, kE0_m1, kE0_1, kE0_2, kE0_3, kE0_4, kE1_m11, kE1_m2, kE1_m1, kE1_0, kE1_2, kE1_3, kE1_4, kE2_m11, kE2_m2, kE2_m1, kE2_0, kE2_1, kE2_3, kE2_4, kE3_m11, kE3_m2, kE3_m1, kE3_0, kE3_1, kE3_2, kE3_4, kE4_m11, kE4_m2, kE4_m1, kE4_0, kE4_1, kE4_2, kE4_3, kE5_m11, kE5_m2, kE5_m1, kE5_0, kE5_1, kE5_2, kE5_3, kE5_4, kE6_m11, kE6_m2, kE6_m1, kE6_0, kE6_1, kE6_2, kE6_3, kE6_4, kE7_m11, kE7_m2, kE7_m1, kE7_0, kE7_1, kE7_2, kE7_3, kE7_4, kE8_m11, kE8_m2, kE8_m1, kE8_0, kE8_1, kE8_2, kE8_3, kE8_4, kLm14_0, kLm14_1, kLm13_0, kLm13_1, kLm12_0, kLm12_1, kLm11_0, kLm11_1, kLm5_0, kLm5_1, kLm3_0, kLm3_1, kLm2_0, kLm2_1, kLm1_0, kLm1_1, kL0_0, kL0_1, kL1_0, kL1_1, kL2_0, kL2_1, kL3_0, kL3_1, kL4_0, kL4_1, kL5_0, kL5_1, kL6_0, kL6_1, kL7_0, kL7_1, kL8_0, kL8_1]
        rw [← hn, hn']
        refine am_T.ri ⟨F2, fun o i ho hi => ?_⟩
        rw [g1 (5 * o + i) (by omega)]
        exact g o i ho hi
      | true =>
        rw [ok] at hn'
        simp only [if_true] at hn' ⊢
        simp only [sX5_soupsOf_21, sX5_soupsOf_24, sX5_soupsOf_27, sX5_soupsOf_30, sX5_soupsOf_33, not_true_eq_false, not_false_eq_true, false_and, and_false, true_and, and_true, and_self, or_self, true_or, or_true, false_or, or_false, ite_self, kEm14_m11, kEm14_m2, kEm14_m1, kEm14_0, kEm14_1, kEm14_2, kEm14_3, kEm14_4, kEm13_m11, kEm13_m2, kEm13_m1, kEm13_0, kEm13_1, kEm13_2, kEm13_3, kEm13_4, kEm12_m11, kEm12_m2, kEm12_m1, kEm12_0, kEm12_1, kEm12_2, kEm12_3, kEm12_4, kEm11_m2, kEm11_m1, kEm11_0, kEm11_1, kEm11_2, kEm11_3, kEm11_4, kEm5_m11, kEm5_m2, kEm5_m1, kEm5_0, kEm5_1, kEm5_2, kEm5_3, kEm5_4, kEm3_m11, kEm3_m2, kEm3_m1, kEm3_0, kEm3_1, kEm3_2, kEm3_3, kEm3_4, kEm2_m11, kEm2_m1, kEm2_0, kEm2_1, kEm2_2, kEm2_3, kEm2_4, kEm1_m11, kEm1_m2, kEm1_0, kEm1_1, kEm1_2, kEm1_3, kEm1_4, kE0_m11, kE0_m2, kE0_m1, kE0_1, kE0_2, kE0_3, kE0_4, kE1_m11, kE1_m2, kE1_m1, kE1_0, kE1_2, kE1_3, kE1_4, kE2_m11, kE2_m2, kE2_m1, kE2_0, kE2_1, kE2_3, kE2_4, kE3_m11, kE3_m2, kE3_m1, kE3_0, kE3_1, kE3_2, kE3_4, kE4_m11, kE4_m2, kE4_m1, kE4_0, kE4_1, kE4_2, kE4_3, kE5_m11, kE5_m2, kE5_m1, kE5_0, kE5_1, kE5_2, kE5_3, kE5_4, kE6_m11, kE6_m2, kE6_m1, kE6_0, kE6_1, kE6_2, kE6_3, kE6_4, kE7_m11, kE7_m2, kE7_m1, kE7_0, kE7_1, kE7_2, kE7_3, kE7_4, kE8_m11, kE8_m2, kE8_m1, kE8_0, kE8_1, kE8_2, kE8_3, kE8_4, kLm14_0, kLm14_1, kLm13_0, kLm13_1, kLm12_0, kLm12_1, kLm11_0, kLm11_1, kLm5_0, kLm5_1, kLm3_0, kLm3_1, kLm2_0, kLm2_1, kLm1_0, kLm1_1, kL0_0, kL0_1, kL1_0, kL1_1, kL2_0, kL2_1, kL3_0, kL3_1, kL4_0, kL4_1, kL5_0, kL5_1, kL6_0, kL6_1, kL7_0, kL7_1, kL8_0, kL8_1, am_n1]
        have e1 : I2 = I := f2.ieq
        have e2 : J2 = J := f2.jeq
        subst e1 e2
        refine ih (e + 1) A2 (by omega) (hn'.symm.trans hn) F2 (fun o i ho hi => ?_)
        by_cases z : o = e
        · subst z; exact g2 ok i hi
        · rw [g1 (5 * o + i) (by omega)]
          exact g o i (by omega) hi
  simp only [eX5_soupsOf, sX5_soupsOf_0, sX5_soupsOf_1, sX5_soupsOf_2, sX5_soupsOf_3]
  exact key 6 0 A rfl rfl Fr.rf (fun o i ho => absurd ho (Nat.not_lt_zero o))
theorem c_tellersOf {z p q : Nat} (hz : z ≤ 8) (e1 : I 36 2 = nI z) (hp : p + 5 ≤ 30) (hq : q + 5 ≤ 30) : am_CL X (d + 3) mX5_tellersOf [.ref 36, .int (nI p), .int (nI q)] (am_wd I A J) = some (some (.int (whoF (fun j => telF (A 38 j) (A 37 j) (fun t => A 39 (p + t)) (fun t => A 39 (q + t)) 5) z)), am_wd I A J) := by
  have key : ∀ (m j : Nat), j + m = z → am_EV X (d + 2) mX5_tellersOf 5 [.ref 36, .int (nI p), .int (nI q), .int (whoF (fun j => telF (A 38 j) (A 37 j) (fun t => A 39 (p + t)) (fun t => A 39 (q + t)) 5) j), .int (nI j)] [] (am_wd I A J) = some (some (.int (whoF (fun j => telF (A 38 j) (A 37 j) (fun t => A 39 (p + t)) (fun t => A 39 (q + t)) 5) z)), am_wd I A J) := by
    intro m
    induction m with
    | zero =>
      intro j hj
      have jz : j = z := by omega
      subst jz
      simp only [sX5_tellersOf_5, sX5_tellersOf_7, sX5_tellersOf_8, sX5_tellersOf_11, sX5_tellersOf_46, sX5_tellersOf_47, wo_36, wf_36_0, wv_36_0, wf_36_1, wv_36_1, wf_36_2, wv_36_2, wp_36_2, wf_36_3, wv_36_3, wf_36_4, wv_36_4, wf_36_5, wv_36_5, wp_36_5, am_rt_some, am_rt_void, am_rt_none, am_rt_ite, ↓reduceIte, if_true, if_false, and_self, true_and, and_true, true_or, or_true, Bool.false_eq_true, reduceCtorEq, e1, am_nlt (show j < 2147483648 by omega) (show j < 2147483648 by omega), Nat.lt_irrefl]
    | succ m ih =>
      intro j hj
      have nx := ih (j + 1) (by omega)
      have wj : whoF (fun j => telF (A 38 j) (A 37 j) (fun t => A 39 (p + t)) (fun t => A 39 (q + t)) 5) (j + 1) = if telF (A 38 j) (A 37 j) (fun t => A 39 (p + t)) (fun t => A 39 (q + t)) 5 = true then whoF (fun j => telF (A 38 j) (A 37 j) (fun t => A 39 (p + t)) (fun t => A 39 (q + t)) 5) j ||| ((1 : Int32) <<< (nI j &&& 31)) else whoF (fun j => telF (A 38 j) (A 37 j) (fun t => A 39 (p + t)) (fun t => A 39 (q + t)) 5) j := rfl
      rw [wj] at nx
      rw [sX5_tellersOf_5]
      simp only [sX5_tellersOf_7, sX5_tellersOf_8, sX5_tellersOf_11, sX5_tellersOf_14, sX5_tellersOf_15, sX5_tellersOf_17, sX5_tellersOf_18, sX5_tellersOf_21, sX5_tellersOf_22, sX5_tellersOf_23, sX5_tellersOf_26, sX5_tellersOf_27, wo_36, wf_36_0, wv_36_0, wf_36_1, wv_36_1, wf_36_2, wv_36_2, wp_36_2, wf_36_3, wv_36_3, wf_36_4, wv_36_4, wf_36_5, wv_36_5, wp_36_5, am_rt_some, am_rt_void, am_rt_none, am_rt_ite, ↓reduceIte, if_true, if_false, and_self, true_and, and_true, true_or, or_true, Bool.false_eq_true, reduceCtorEq, e1, am_nlt (show j < 2147483648 by omega) (show z < 2147483648 by omega), show j < z by omega, c_tells39_39 (show j < 8 by omega) hp hq]
      cases t : telF (A 38 j) (A 37 j) (fun t => A 39 (p + t)) (fun t => A 39 (q + t)) 5 with
      | true =>
        rw [t] at nx
        simp only [if_true] at nx ⊢
        simp only [sX5_tellersOf_30, sX5_tellersOf_33, sX5_tellersOf_34, sX5_tellersOf_35, sX5_tellersOf_37, sX5_tellersOf_38, sX5_tellersOf_39, sX5_tellersOf_40, sX5_tellersOf_43, not_true_eq_false, not_false_eq_true, false_and, and_false, true_and, and_true, and_self, or_self, true_or, or_true, false_or, or_false, ite_self, kEm14_m11, kEm14_m2, kEm14_m1, kEm14_0, kEm14_1, kEm14_2, kEm14_3, kEm14_4, kEm13_m11, kEm13_m2, kEm13_m1, kEm13_0, kEm13_1, kEm13_2, kEm13_3, kEm13_4, kEm12_m11, kEm12_m2, kEm12_m1, kEm12_0, kEm12_1, kEm12_2, kEm12_3, kEm12_4, kEm11_m2, kEm11_m1, kEm11_0, kEm11_1, kEm11_2, kEm11_3, kEm11_4, kEm5_m11, kEm5_m2, kEm5_m1, kEm5_0, kEm5_1, kEm5_2, kEm5_3, kEm5_4, kEm3_m11, kEm3_m2, kEm3_m1, kEm3_0, kEm3_1, kEm3_2, kEm3_3, kEm3_4, kEm2_m11, kEm2_m1, kEm2_0, kEm2_1, kEm2_2, kEm2_3, kEm2_4, kEm1_m11, kEm1_m2, kEm1_0, kEm1_1, kEm1_2, kEm1_3, kEm1_4, kE0_m11, kE0_m2, kE0_m1, kE0_1, kE0_2, kE0_3, kE0_4, kE1_m11, kE1_m2, kE1_m1, kE1_0, kE1_2, kE1_3, kE1_4, kE2_m11, kE2_m2, kE2_m1, kE2_0, kE2_1, kE2_3, kE2_4, kE3_m11, kE3_m2, kE3_m1, kE3_0, kE3_1, kE3_2, kE3_4, kE4_m11, kE4_m2, kE4_m1, kE4_0, kE4_1, kE4_2, kE4_3, kE5_m11, kE5_m2, kE5_m1, kE5_0, kE5_1, kE5_2, kE5_3, kE5_4, kE6_m11, kE6_m2, kE6_m1, kE6_0, kE6_1, kE6_2, kE6_3, kE6_4, kE7_m11, kE7_m2, kE7_m1, kE7_0, kE7_1, kE7_2, kE7_3, kE7_4, kE8_m11, kE8_m2, kE8_m1, kE8_0, kE8_1, kE8_2, kE8_3, kE8_4, kLm14_0, kLm14_1, kLm13_0, kLm13_1, kLm12_0, kLm12_1, kLm11_0, kLm11_1, kLm5_0, kLm5_1, kLm3_0, kLm3_1, kLm2_0, kLm2_1, kLm1_0, kLm1_1, kL0_0, kL0_1, kL1_0, kL1_1, kL2_0, kL2_1, kL3_0, kL3_1, kL4_0, kL4_1, kL5_0, kL5_1, kL6_0, kL6_1, kL7_0, kL7_1, kL8_0, kL8_1, if_true, if_false, am_n1, nx]
      | false =>
        rw [t] at nx
        simp only [Bool.false_eq_true, if_false] at nx ⊢
        simp only [sX5_tellersOf_30, sX5_tellersOf_33, sX5_tellersOf_34, sX5_tellersOf_35, sX5_tellersOf_37, sX5_tellersOf_38, sX5_tellersOf_39, sX5_tellersOf_40, sX5_tellersOf_43, not_true_eq_false, not_false_eq_true, false_and, and_false, true_and, and_true, and_self, or_self, true_or, or_true, false_or, or_false, ite_self, kEm14_m11, kEm14_m2, kEm14_m1, kEm14_0, kEm14_1, kEm14_2, kEm14_3, kEm14_4, kEm13_m11, kEm13_m2, kEm13_m1, kEm13_0, kEm13_1, kEm13_2, kEm13_3, kEm13_4, kEm12_m11, kEm12_m2, kEm12_m1, kEm12_0, kEm12_1, kEm12_2, kEm12_3, kEm12_4, kEm11_m2, kEm11_m1, kEm11_0, kEm11_1, kEm11_2, kEm11_3, kEm11_4, kEm5_m11, kEm5_m2, kEm5_m1, kEm5_0, kEm5_1, kEm5_2, kEm5_3, kEm5_4, kEm3_m11, kEm3_m2, kEm3_m1, kEm3_0, kEm3_1, kEm3_2, kEm3_3, kEm3_4, kEm2_m11, kEm2_m1, kEm2_0, kEm2_1, kEm2_2, kEm2_3, kEm2_4, kEm1_m11, kEm1_m2, kEm1_0, kEm1_1, kEm1_2, kEm1_3, kEm1_4, kE0_m11, kE0_m2, kE0_m1, kE0_1, kE0_2, kE0_3, kE0_4, kE1_m11, kE1_m2, kE1_m1, kE1_0, kE1_2, kE1_3, kE1_4, kE2_m11, kE2_m2, kE2_m1, kE2_0, kE2_1, kE2_3, kE2_4, kE3_m11, kE3_m2, kE3_m1, kE3_0, kE3_1, kE3_2, kE3_4, kE4_m11, kE4_m2, kE4_m1, kE4_0, kE4_1, kE4_2, kE4_3, kE5_m11, kE5_m2, kE5_m1, kE5_0, kE5_1, kE5_2, kE5_3, kE5_4, kE6_m11, kE6_m2, kE6_m1, kE6_0, kE6_1, kE6_2, kE6_3, kE6_4, kE7_m11, kE7_m2, kE7_m1, kE7_0, kE7_1, kE7_2, kE7_3, kE7_4, kE8_m11, kE8_m2, kE8_m1, kE8_0, kE8_1, kE8_2, kE8_3, kE8_4, kLm14_0, kLm14_1, kLm13_0, kLm13_1, kLm12_0, kLm12_1, kLm11_0, kLm11_1, kLm5_0, kLm5_1, kLm3_0, kLm3_1, kLm2_0, kLm2_1, kLm1_0, kLm1_1, kL0_0, kL0_1, kL1_0, kL1_1, kL2_0, kL2_1, kL3_0, kL3_1, kL4_0, kL4_1, kL5_0, kL5_1, kL6_0, kL6_1, kL7_0, kL7_1, kL8_0, kL8_1, if_true, if_false, am_n1, nx]
  simp only [eX5_tellersOf, sX5_tellersOf_0, sX5_tellersOf_1, sX5_tellersOf_2, sX5_tellersOf_3]
  exact key z 0 (by omega)
/-- how many pairs come before the row of one -/
def prB (n : Nat) : Nat → Nat
  | 0 => 0
  | o + 1 => prB n o + (n - 1 - o)
theorem prB_lt {n o q : Nat} (hn : n ≤ 6) (ho : o < n) (h1 : o < q) (h2 : q < n) : prB n o + (q - o - 1) < 15 := by
  have key : ∀ n, n ≤ 6 → ∀ o, o < n → ∀ q, q < n → o < q → prB n o + (q - o - 1) < 15 := by decide
  exact key n hn o ho q h2 h1
/-- the pairs' tellers, as far as they are told -/
def PrO (T : Nat → Nat → Int32) (te : Nat → Int32) (P n o q : Nat) : Prop := (∀ p, p < P → ∃ a b, a < b ∧ b < n ∧ te p = T a b) ∧ ∀ a b, a < b → b < n → (a < o ∨ (a = o ∧ b < q)) → ∃ p, p < P ∧ te p = T a b
theorem c_pairUp {z n : Nat} (hz : z ≤ 8) (e1 : I 36 2 = nI z) (hn : n ≤ 6) (T : Nat → Nat → Int32) (hT : ∀ a b, T a b = whoF (fun j => telF (A 38 j) (A 37 j) (fun t => A 39 (5 * a + t)) (fun t => A 39 (5 * b + t)) 5) z) : ∃ (P : Nat) (te : Nat → Int32), P ≤ 15 ∧ (∀ p, p < P → ∃ a b, a < b ∧ b < n ∧ te p = T a b) ∧ (∀ a b, a < b → b < n → ∃ p, p < P ∧ te p = T a b) ∧ am_CL X (d + 4) mX5_pairUp [.ref 36, .int (nI n)] (am_wd I A J) = some (none, am_wd (am_u2 I 36 5 (nI P)) (am_u A 40 te) J) := by
  have row : ∀ (m o q : Nat) (te : Nat → Int32), q + m = n → o < q → PrO T te (prB n o + (q - o - 1)) n o q → ∃ te', PrO T te' (prB n (o + 1)) n o n ∧ am_EV X (d + 3) mX5_pairUp 16 [.ref 36, .int (nI n), .int (nI o), .int (nI q)] [] (am_wd (am_u2 I 36 5 (nI (prB n o + (q - o - 1)))) (am_u A 40 te) J) = am_EV X (d + 3) mX5_pairUp 62 [.ref 36, .int (nI n), .int (nI o), .int (nI n)] [] (am_wd (am_u2 I 36 5 (nI (prB n (o + 1)))) (am_u A 40 te') J) := by
    intro m
    induction m with
    | zero =>
      intro o q te hq ho g
      have qn : q = n := by omega
      subst qn
      have eP : prB q (o + 1) = prB q o + (q - o - 1) := by
        show prB q o + (q - 1 - o) = _
        omega
      rw [eP]
      exact ⟨te, g, by simp only [sX5_pairUp_16, sX5_pairUp_17, sX5_pairUp_18, am_rt_some, am_rt_void, am_rt_none, am_rt_ite, ↓reduceIte, if_true, if_false, and_self, true_and, and_true, true_or, or_true, Bool.false_eq_true, reduceCtorEq, am_nlt (show q < 2147483648 by omega) (show q < 2147483648 by omega), Nat.lt_irrefl]⟩
    | succ m ih =>
      intro o q te hq ho g
      have hP := prB_lt hn (show o < n by omega) ho (show q < n by omega)
      have eP : prB n o + (q + 1 - o - 1) = prB n o + (q - o - 1) + 1 := by omega
      obtain ⟨te', g', h'⟩ := ih o (q + 1) (upd te (prB n o + (q - o - 1)) (T o q)) (by omega) (by omega) (by
        rw [eP]
        generalize prB n o + (q - o - 1) = P at *
        refine ⟨fun p hp => ?_, fun a b h1 h2 h3 => ?_⟩
        · by_cases y : p = P
          · subst y; exact ⟨o, q, ho, by omega, by rw [upd_at]⟩
          · obtain ⟨a, b, x1, x2, x3⟩ := g.1 p (by omega)
            exact ⟨a, b, x1, x2, by rw [upd_ne y]; exact x3⟩
        · by_cases y : a = o ∧ b = q
          · obtain ⟨rfl, rfl⟩ := y
            exact ⟨P, by omega, by rw [upd_at]⟩
          · obtain ⟨p, x1, x2⟩ := g.2 a b h1 h2 (by omega)
            exact ⟨p, by omega, by rw [upd_ne (by omega)]; exact x2⟩)
      refine ⟨te', g', ?_⟩
      rw [← h', eP]
      generalize prB n o + (q - o - 1) = P at *
      have o5 : nI o * 5 = nI (5 * o) := by rw [Nat.mul_comm]; exact i_mul o 5
      have q5 : nI q * 5 = nI (5 * q) := by rw [Nat.mul_comm]; exact i_mul q 5
      have ct := c_tellersOf (X := X) (d := d) (I := am_u2 I 36 5 (nI (P + 1))) (A := am_u A 40 te) (J := J) (z := z) (p := 5 * o) (q := 5 * q) hz e1 (by omega) (by omega)
      rw [show whoF (fun j => telF (am_u A 40 te 38 j) (am_u A 40 te 37 j) (fun t => am_u A 40 te 39 (5 * o + t)) (fun t => am_u A 40 te 39 (5 * q + t)) 5) z = T o q from (hT o q).symm] at ct
      have lP : (nI P < 15) = True := by rw [am_nlit (x := 15) 15 rfl (show P < 2147483648 by omega) (by decide)]; exact eq_true hP
      rw [sX5_pairUp_16]
      simp only [sX5_pairUp_17, sX5_pairUp_18, sX5_pairUp_21, sX5_pairUp_22, sX5_pairUp_25, sX5_pairUp_27, sX5_pairUp_30, sX5_pairUp_31, sX5_pairUp_34, sX5_pairUp_35, sX5_pairUp_35_r, sX5_pairUp_36, sX5_pairUp_39, sX5_pairUp_40, sX5_pairUp_41, sX5_pairUp_42, sX5_pairUp_45, sX5_pairUp_46, sX5_pairUp_47, sX5_pairUp_48, sX5_pairUp_49, sX5_pairUp_50, sX5_pairUp_51, sX5_pairUp_52, sX5_pairUp_55, sX5_pairUp_56, sX5_pairUp_59, wo_36, wf_36_0, wv_36_0, wf_36_1, wv_36_1, wf_36_2, wv_36_2, wp_36_2, wf_36_3, wv_36_3, wf_36_4, wv_36_4, wf_36_5, wv_36_5, wp_36_5, wi_40, wg_40, ws_40, ww_40, wl_40, wn_40, am_rt_some, am_rt_void, am_rt_none, am_rt_ite, ↓reduceIte, if_true, if_false, and_self, true_and, and_true, true_or, or_true, Bool.false_eq_true, reduceCtorEq, am_nlt (show q < 2147483648 by omega) (show n < 2147483648 by omega), show q < n by omega, am_u2_at, lP, am_n1, o5, q5, ct, am_nin (show P < 15 by omega) (show (15 : Nat) < 2147483648 by omega), am_ncl (show P < 2147483648 by omega), am_u_at, am_uu, am_u22]
  have outer : ∀ (m o : Nat) (te : Nat → Int32) (z3 : Value), o + m = n → PrO T te (prB n o) n o (o + 1) → ∃ te', PrO T te' (prB n n) n n (n + 1) ∧ am_EV X (d + 3) mX5_pairUp 7 [.ref 36, .int (nI n), .int (nI o), z3] [] (am_wd (am_u2 I 36 5 (nI (prB n o))) (am_u A 40 te) J) = some (none, am_wd (am_u2 I 36 5 (nI (prB n n))) (am_u A 40 te') J) := by
    intro m
    induction m with
    | zero =>
      intro o te z3 ho g
      have on : o = n := by omega
      subst on
      exact ⟨te, g, by simp only [sX5_pairUp_7, sX5_pairUp_8, sX5_pairUp_9, sX5_pairUp_68, am_rt_some, am_rt_void, am_rt_none, am_rt_ite, ↓reduceIte, if_true, if_false, and_self, true_and, and_true, true_or, or_true, Bool.false_eq_true, reduceCtorEq, am_nlt (show o < 2147483648 by omega) (show o < 2147483648 by omega), Nat.lt_irrefl]⟩
    | succ m ih =>
      intro o te z3 ho g
      have eP : prB n o + (o + 1 - o - 1) = prB n o := by omega
      obtain ⟨te', g', h'⟩ := row (n - (o + 1)) o (o + 1) te (by omega) (by omega) (by rw [eP]; exact g)
      obtain ⟨te2, g2, h2⟩ := ih (o + 1) te' (.int (nI n)) (by omega) ⟨g'.1, fun a b x1 x2 x3 => g'.2 a b x1 x2 (by omega)⟩
      refine ⟨te2, g2, ?_⟩
      rw [← h2]
      rw [eP] at h'
      rw [sX5_pairUp_7]
      simp only [sX5_pairUp_8, sX5_pairUp_9, sX5_pairUp_12, sX5_pairUp_13, sX5_pairUp_14, sX5_pairUp_15, am_nlt (show o < 2147483648 by omega) (show n < 2147483648 by omega), show o < n by omega, if_true, am_n1, h', sX5_pairUp_62, sX5_pairUp_65]
  obtain ⟨te, g, h⟩ := outer n 0 (A 40) (.retAddr 0) (by omega) ⟨fun p hp => absurd hp (Nat.not_lt_zero p), fun a b _ _ x3 => by omega⟩
  refine ⟨prB n n, te, ?_, g.1, fun a b x1 x2 => g.2 a b x1 x2 (by omega), ?_⟩
  · have key : ∀ n, n ≤ 6 → prB n n ≤ 15 := by decide
    exact key n hn
  · rw [am_uid] at h
    simp only [eX5_pairUp, sX5_pairUp_0, sX5_pairUp_1, sX5_pairUp_2, sX5_pairUp_5, sX5_pairUp_6, wo_36, wf_36_0, wv_36_0, wf_36_1, wv_36_1, wf_36_2, wv_36_2, wp_36_2, wf_36_3, wv_36_3, wf_36_4, wv_36_4, wf_36_5, wv_36_5, wp_36_5, am_rt_some, am_rt_void, am_rt_none, am_rt_ite, ↓reduceIte, if_true, if_false, and_self, true_and, and_true, true_or, or_true, Bool.false_eq_true, reduceCtorEq]
    exact h
theorem c_tellAll {P : Nat} {x : Int32} (hP : P ≤ 15) (e : I 36 5 = nI P) : am_CL X (d + 2) mX5_tellAll [.ref 36, .int x] (am_wd I A J) = some (some (.int (if allB (fun p => decide (¬ A 40 p &&& x = 0)) P = true then 1 else 0)), am_wd I A J) := by
  have key : ∀ (m t : Nat), t + m = P → allB (fun p => decide (¬ A 40 p &&& x = 0)) t = true → am_EV X (d + 1) mX5_tellAll 2 [.ref 36, .int x, .int (nI t)] [] (am_wd I A J) = some (some (.int (if allB (fun p => decide (¬ A 40 p &&& x = 0)) P = true then 1 else 0)), am_wd I A J) := by
    intro m
    induction m with
    | zero =>
      intro t ht g
      have tP : t = P := by omega
      subst tP
      simp only [sX5_tellAll_2, sX5_tellAll_3, sX5_tellAll_4, sX5_tellAll_7, sX5_tellAll_29, sX5_tellAll_30, wo_36, wf_36_0, wv_36_0, wf_36_1, wv_36_1, wf_36_2, wv_36_2, wp_36_2, wf_36_3, wv_36_3, wf_36_4, wv_36_4, wf_36_5, wv_36_5, wp_36_5, am_rt_some, am_rt_void, am_rt_none, am_rt_ite, ↓reduceIte, if_true, if_false, and_self, true_and, and_true, true_or, or_true, Bool.false_eq_true, reduceCtorEq, e, am_nlt (show t < 2147483648 by omega) (show t < 2147483648 by omega), Nat.lt_irrefl, g, if_true, not_true_eq_false, not_false_eq_true, false_and, and_false, true_and, and_true, and_self, or_self, true_or, or_true, false_or, or_false, ite_self, kEm14_m11, kEm14_m2, kEm14_m1, kEm14_0, kEm14_1, kEm14_2, kEm14_3, kEm14_4, kEm13_m11, kEm13_m2, kEm13_m1, kEm13_0, kEm13_1, kEm13_2, kEm13_3, kEm13_4, kEm12_m11, kEm12_m2, kEm12_m1, kEm12_0, kEm12_1, kEm12_2, kEm12_3, kEm12_4, kEm11_m2, kEm11_m1, kEm11_0, kEm11_1, kEm11_2, kEm11_3, kEm11_4, kEm5_m11, kEm5_m2, kEm5_m1, kEm5_0, kEm5_1, kEm5_2, kEm5_3, kEm5_4, kEm3_m11, kEm3_m2, kEm3_m1, kEm3_0, kEm3_1, kEm3_2, kEm3_3, kEm3_4, kEm2_m11, kEm2_m1, kEm2_0, kEm2_1, kEm2_2, kEm2_3, kEm2_4, kEm1_m11, kEm1_m2, kEm1_0, kEm1_1, kEm1_2, kEm1_3, kEm1_4, kE0_m11, kE0_m2, kE0_m1, kE0_1, kE0_2, kE0_3, kE0_4, kE1_m11, kE1_m2, kE1_m1, kE1_0, kE1_2, kE1_3, kE1_4, kE2_m11, kE2_m2, kE2_m1, kE2_0, kE2_1, kE2_3, kE2_4, kE3_m11, kE3_m2, kE3_m1, kE3_0, kE3_1, kE3_2, kE3_4, kE4_m11, kE4_m2, kE4_m1, kE4_0, kE4_1, kE4_2, kE4_3, kE5_m11, kE5_m2, kE5_m1, kE5_0, kE5_1, kE5_2, kE5_3, kE5_4, kE6_m11, kE6_m2, kE6_m1, kE6_0, kE6_1, kE6_2, kE6_3, kE6_4, kE7_m11, kE7_m2, kE7_m1, kE7_0, kE7_1, kE7_2, kE7_3, kE7_4, kE8_m11, kE8_m2, kE8_m1, kE8_0, kE8_1, kE8_2, kE8_3, kE8_4, kLm14_0, kLm14_1, kLm13_0, kLm13_1, kLm12_0, kLm12_1, kLm11_0, kLm11_1, kLm5_0, kLm5_1, kLm3_0, kLm3_1, kLm2_0, kLm2_1, kLm1_0, kLm1_1, kL0_0, kL0_1, kL1_0, kL1_1, kL2_0, kL2_1, kL3_0, kL3_1, kL4_0, kL4_1, kL5_0, kL5_1, kL6_0, kL6_1, kL7_0, kL7_1, kL8_0, kL8_1]
    | succ m ih =>
      intro t ht g
      rw [sX5_tellAll_2]
      simp only [sX5_tellAll_3, sX5_tellAll_4, sX5_tellAll_7, sX5_tellAll_10, sX5_tellAll_11, sX5_tellAll_14, sX5_tellAll_15, sX5_tellAll_16, sX5_tellAll_17, sX5_tellAll_18, wo_36, wf_36_0, wv_36_0, wf_36_1, wv_36_1, wf_36_2, wv_36_2, wp_36_2, wf_36_3, wv_36_3, wf_36_4, wv_36_4, wf_36_5, wv_36_5, wp_36_5, wi_40, wg_40, ws_40, ww_40, wl_40, wn_40, am_rt_some, am_rt_void, am_rt_none, am_rt_ite, ↓reduceIte, if_true, if_false, and_self, true_and, and_true, true_or, or_true, Bool.false_eq_true, reduceCtorEq, e, am_nlt (show t < 2147483648 by omega) (show P < 2147483648 by omega), show t < P by omega, am_nin (show t < 15 by omega) (show (15 : Nat) < 2147483648 by omega), am_ncl (show t < 2147483648 by omega)]
      by_cases q : A 40 t &&& x = 0
      · have : ¬ allB (fun p => decide (¬ A 40 p &&& x = 0)) P = true := fun y => by
          have := allB_iff.mp y t (by omega)
          exact (of_decide_eq_true this) q
        rw [if_neg this]
        simp only [q, if_true, sX5_tellAll_21, sX5_tellAll_22, not_true_eq_false, not_false_eq_true, false_and, and_false, true_and, and_true, and_self, or_self, true_or, or_true, false_or, or_false, ite_self, kEm14_m11, kEm14_m2, kEm14_m1, kEm14_0, kEm14_1, kEm14_2, kEm14_3, kEm14_4, kEm13_m11, kEm13_m2, kEm13_m1, kEm13_0, kEm13_1, kEm13_2, kEm13_3, kEm13_4, kEm12_m11, kEm12_m2, kEm12_m1, kEm12_0, kEm12_1, kEm12_2, kEm12_3, kEm12_4, kEm11_m2, kEm11_m1, kEm11_0, kEm11_1, kEm11_2, kEm11_3, kEm11_4, kEm5_m11, kEm5_m2, kEm5_m1, kEm5_0, kEm5_1, kEm5_2, kEm5_3, kEm5_4, kEm3_m11, kEm3_m2, kEm3_m1, kEm3_0, kEm3_1, kEm3_2, kEm3_3, kEm3_4, kEm2_m11, kEm2_m1, kEm2_0, kEm2_1, kEm2_2, kEm2_3, kEm2_4, kEm1_m11, kEm1_m2, kEm1_0, kEm1_1, kEm1_2, kEm1_3, kEm1_4, kE0_m11, kE0_m2, kE0_m1, kE0_1, kE0_2, kE0_3, kE0_4, kE1_m11, kE1_m2, kE1_m1, kE1_0, kE1_2, kE1_3, kE1_4, kE2_m11, kE2_m2, kE2_m1, kE2_0, kE2_1, kE2_3, kE2_4, kE3_m11, kE3_m2, kE3_m1, kE3_0, kE3_1, kE3_2, kE3_4, kE4_m11, kE4_m2, kE4_m1, kE4_0, kE4_1, kE4_2, kE4_3, kE5_m11, kE5_m2, kE5_m1, kE5_0, kE5_1, kE5_2, kE5_3, kE5_4, kE6_m11, kE6_m2, kE6_m1, kE6_0, kE6_1, kE6_2, kE6_3, kE6_4, kE7_m11, kE7_m2, kE7_m1, kE7_0, kE7_1, kE7_2, kE7_3, kE7_4, kE8_m11, kE8_m2, kE8_m1, kE8_0, kE8_1, kE8_2, kE8_3, kE8_4, kLm14_0, kLm14_1, kLm13_0, kLm13_1, kLm12_0, kLm12_1, kLm11_0, kLm11_1, kLm5_0, kLm5_1, kLm3_0, kLm3_1, kLm2_0, kLm2_1, kLm1_0, kLm1_1, kL0_0, kL0_1, kL1_0, kL1_1, kL2_0, kL2_1, kL3_0, kL3_1, kL4_0, kL4_1, kL5_0, kL5_1, kL6_0, kL6_1, kL7_0, kL7_1, kL8_0, kL8_1]
      · have nx := ih (t + 1) (by omega) (by
          show (allB _ t && _) = true
          rw [g, Bool.true_and]; exact decide_eq_true q)
        simp only [q, if_false, sX5_tellAll_23, sX5_tellAll_26, am_n1, nx]
  simp only [eX5_tellAll, sX5_tellAll_0, sX5_tellAll_1]
  exact key P 0 (by omega) rfl
def telC (A : TI) (z : Nat) (b : Nat → Int32) (n x : Nat) : Bool := allB (fun i => allB (fun j => anyB (fun o => bt1 (nI x) o && telF (A 38 o) (A 37 o) (fun t => b (5 * i + t)) (fun t => b (5 * j + t)) 5) z) i) n
theorem c_fewest {k ln z : Nat} {b : Nat → Int32} (h : ShB I A J k ln b) (hz : z ≤ 8) (e1 : I 36 2 = nI z) : am_T (am_CL X (d + 6) mX5_fewest [.ref 36, .ref (69 + 2 * k)] (am_wd I A J)) (oI (fewF (telC A z b (nSp ln b 6 0)) (2 ^ z)) fun I' A' J' => Fr [(36, 5)] [39, 40] [] I A J I' A' J') := by
  have hk := h.1
  simp only [eX5_fewest, sX5_fewest_0, sX5_fewest_1, sX5_fewest_2, sX5_fewest_3, wo_36, wf_36_0, wv_36_0, wf_36_1, wv_36_1, wf_36_2, wv_36_2, wp_36_2, wf_36_3, wv_36_3, wf_36_4, wv_36_4, wf_36_5, wv_36_5, wp_36_5, am_rt_some, am_rt_void, am_rt_none, am_rt_ite, ↓reduceIte, if_true, if_false, and_self, true_and, and_true, true_or, or_true, Bool.false_eq_true, reduceCtorEq]
  refine am_T.rtI (c_soupsOf h) ?_
  intro I1 A1 J1 ⟨f, g⟩
  have hn6 : nSp ln b 6 0 ≤ 6 := by have := (nSp_le (ln := ln) (b := b) 6 0).2; omega
  have hok := nSp_ok (ln := ln) (b := b) 6 0
  generalize hN : nSp ln b 6 0 = n at *
  obtain ⟨P, te, p1, p2, p3, p4⟩ := c_pairUp (X := X) (d := d + 1) (J := J1) hz ((f.i 36 2 (by decide)).trans e1) hn6 (fun a b' => whoF (fun j => telF (A1 38 j) (A1 37 j) (fun t => A1 39 (5 * a + t)) (fun t => A1 39 (5 * b' + t)) 5) z) (fun _ _ => rfl)
  have F2 : Fr [(36, 5)] [39, 40] [] I A J (am_u2 I1 36 5 (nI P)) (am_u A1 40 te) J1 := ((f.mo (by decide) (by decide) (by decide)).ui (by decide)).ua (by decide)
  simp only [sX5_fewest_6, am_rt_some, am_rt_void, am_rt_none, am_rt_ite, ↓reduceIte, if_true, if_false, and_self, true_and, and_true, true_or, or_true, Bool.false_eq_true, reduceCtorEq, p4]
  generalize hI2 : am_u2 I1 36 5 (nI P) = I2 at *
  generalize hA2 : am_u A1 40 te = A2 at *
  have q1 : I2 36 2 = nI z := (F2.i 36 2 (by decide)).trans e1
  have q2 : I2 36 5 = nI P := by rw [← hI2, am_u2_at]
  have q3 : A2 40 = te := by rw [← hA2, am_u_at]
  have tl : ∀ x, allB (fun p => decide (¬ A2 40 p &&& nI x = 0)) P = telC A z b n x := by
    intro x
    rw [q3]
    have a38 : A1 38 = A 38 := f.a 38 (by decide)
    have a37 : A1 37 = A 37 := f.a 37 (by decide)
    have tt : ∀ i j, i < n → j < i → (¬ (whoF (fun o => telF (A1 38 o) (A1 37 o) (fun t => A1 39 (5 * j + t)) (fun t => A1 39 (5 * i + t)) 5) z) &&& nI x = 0) = (anyB (fun o => bt1 (nI x) o && telF (A 38 o) (A 37 o) (fun t => b (5 * i + t)) (fun t => b (5 * j + t)) 5) z = true) := by
      intro i j hi hj
      have e2 : anyB (fun o => bt1 (nI x) o && telF (A 38 o) (A 37 o) (fun t => b (5 * i + t)) (fun t => b (5 * j + t)) 5) z = anyB (fun o => bt1 (nI x) o && telF (A1 38 o) (A1 37 o) (fun t => A1 39 (5 * j + t)) (fun t => A1 39 (5 * i + t)) 5) z := by
        refine anyB_cg fun o ho => ?_
        rw [a38, a37]
        congr 1
        rw [telF_sym (fun t ht => ⟨(sOk_t (hok i (Nat.zero_le i) hi) t ht).2, (sOk_t (hok j (Nat.zero_le j) (by omega)) t ht).2⟩)]
        exact telF_cg rfl rfl (fun t ht => (g j t (by omega) ht).symm) (fun t ht => (g i t hi ht).symm)
      rw [e2]
      exact propext (whoF_and hz (nI x))
    refine Bool.eq_iff_iff.mpr ?_
    unfold telC
    rw [allB_iff, allB_iff]
    constructor
    · intro y i hi
      rw [allB_iff]
      intro j hj
      obtain ⟨p, hp, ep⟩ := p3 j i hj hi
      have := of_decide_eq_true (y p hp)
      rw [ep] at this
      exact (tt i j hi hj).mp this
    · intro y p hp
      obtain ⟨a, c, h1, h2, h3⟩ := p2 p hp
      refine decide_eq_true ?_
      rw [h3]
      exact (tt c a h2 h1).mpr (allB_iff.mp (y c h2) a h1)
  have z2 : (1 : Int32) <<< (nI z &&& 31) = nI (2 ^ z) := by
    have key : ∀ z, z ≤ 8 → (1 : Int32) <<< (nI z &&& 31) = nI (2 ^ z) := by decide +kernel
    exact key z hz
  have z256 : 2 ^ z ≤ 256 := by
    have key : ∀ z, z ≤ 8 → 2 ^ z ≤ 256 := by decide
    exact key z hz
  have key : ∀ (m x : Nat), x + m = 2 ^ z → am_EV X (d + 5) mX5_fewest 18 [.ref 36, .ref (69 + 2 * k), .int (fewF (telC A z b n) x), .int (if fewF (telC A z b n) x = -2 then 9 else am_bc (fewF (telC A z b n) x)), .int (nI x)] [] (am_wd I2 A2 J1) = some (some (.int (fewF (telC A z b n) (2 ^ z))), am_wd I2 A2 J1) := by
    intro m
    induction m with
    | zero =>
      intro x hx
      have xz : x = 2 ^ z := by omega
      rw [sX5_fewest_18]
      simp only [sX5_fewest_20, sX5_fewest_21, sX5_fewest_22, sX5_fewest_25, sX5_fewest_26, sX5_fewest_62, sX5_fewest_63, wo_36, wf_36_0, wv_36_0, wf_36_1, wv_36_1, wf_36_2, wv_36_2, wp_36_2, wf_36_3, wv_36_3, wf_36_4, wv_36_4, wf_36_5, wv_36_5, wp_36_5, am_rt_some, am_rt_void, am_rt_none, am_rt_ite, ↓reduceIte, if_true, if_false, and_self, true_and, and_true, true_or, or_true, Bool.false_eq_true, reduceCtorEq, q1, z2, xz, am_nlt (show 2 ^ z < 2147483648 by omega) (show 2 ^ z < 2147483648 by omega), Nat.lt_irrefl]
    | succ m ih =>
      intro x hx
      have nx := ih (x + 1) (by omega)
      have bx := bc_9 (k := x) (by omega)
      have hfx : fewF (telC A z b n) (x + 1) = if (fewF (telC A z b n) x = -2 ∨ am_bc (nI x) < am_bc (fewF (telC A z b n) x)) ∧ telC A z b n x = true then nI x else fewF (telC A z b n) x := rfl
      have hx2 : ¬ nI x = -2 := fun y => by
        have := nI_pos (n := x) (by omega)
        rw [y] at this
        exact absurd (show (-2 : Int32) < 0 by decide) this
      have cond : (am_bc (nI x) < (if fewF (telC A z b n) x = -2 then 9 else am_bc (fewF (telC A z b n) x))) = (fewF (telC A z b n) x = -2 ∨ am_bc (nI x) < am_bc (fewF (telC A z b n) x)) := by
        by_cases q : fewF (telC A z b n) x = -2
        · rw [if_pos q]; exact propext ⟨fun _ => Or.inl q, fun _ => bx⟩
        · rw [if_neg q]; exact propext ⟨Or.inr, fun y => y.resolve_left q⟩
      rw [hfx] at nx
      have ct := c_tellAll (X := X) (d := d + 3) (A := A2) (J := J1) (x := nI x) p1 q2
      rw [tl x] at ct
      rw [sX5_fewest_18]
      simp only [sX5_fewest_20, sX5_fewest_21, sX5_fewest_22, sX5_fewest_25, sX5_fewest_26, sX5_fewest_29, sX5_fewest_31, sX5_fewest_34, sX5_fewest_35, wo_36, wf_36_0, wv_36_0, wf_36_1, wv_36_1, wf_36_2, wv_36_2, wp_36_2, wf_36_3, wv_36_3, wf_36_4, wv_36_4, wf_36_5, wv_36_5, wp_36_5, am_rt_some, am_rt_void, am_rt_none, am_rt_ite, ↓reduceIte, if_true, if_false, and_self, true_and, and_true, true_or, or_true, Bool.false_eq_true, reduceCtorEq, q1, z2, am_nlt (show x < 2147483648 by omega) (show 2 ^ z < 2147483648 by omega), show x < 2 ^ z by omega, c_bitCount, cond]
      by_cases c1 : fewF (telC A z b n) x = -2 ∨ am_bc (nI x) < am_bc (fewF (telC A z b n) x)
      · cases c2 : telC A z b n x with
        | true =>
          rw [if_pos ⟨c1, c2⟩, if_neg hx2] at nx
          rw [c2] at ct
          rw [if_pos c1]
          simp only [sX5_fewest_38, sX5_fewest_39, sX5_fewest_41, sX5_fewest_44, sX5_fewest_47, sX5_fewest_49, sX5_fewest_50, sX5_fewest_52, sX5_fewest_55, sX5_fewest_56, sX5_fewest_59, wo_36, wf_36_0, wv_36_0, wf_36_1, wv_36_1, wf_36_2, wv_36_2, wp_36_2, wf_36_3, wv_36_3, wf_36_4, wv_36_4, wf_36_5, wv_36_5, wp_36_5, am_rt_some, am_rt_void, am_rt_none, am_rt_ite, ↓reduceIte, if_true, if_false, and_self, true_and, and_true, true_or, or_true, Bool.false_eq_true, reduceCtorEq, ct, if_true, not_true_eq_false, not_false_eq_true, false_and, and_false, true_and, and_true, and_self, or_self, true_or, or_true, false_or, or_false, ite_self, kEm14_m11, kEm14_m2, kEm14_m1, kEm14_0, kEm14_1, kEm14_2, kEm14_3, kEm14_4, kEm13_m11, kEm13_m2, kEm13_m1, kEm13_0, kEm13_1, kEm13_2, kEm13_3, kEm13_4, kEm12_m11, kEm12_m2, kEm12_m1, kEm12_0, kEm12_1, kEm12_2, kEm12_3, kEm12_4, kEm11_m2, kEm11_m1, kEm11_0, kEm11_1, kEm11_2, kEm11_3, kEm11_4, kEm5_m11, kEm5_m2, kEm5_m1, kEm5_0, kEm5_1, kEm5_2, kEm5_3, kEm5_4, kEm3_m11, kEm3_m2, kEm3_m1, kEm3_0, kEm3_1, kEm3_2, kEm3_3, kEm3_4, kEm2_m11, kEm2_m1, kEm2_0, kEm2_1, kEm2_2, kEm2_3, kEm2_4, kEm1_m11, kEm1_m2, kEm1_0, kEm1_1, kEm1_2, kEm1_3, kEm1_4, kE0_m11, kE0_m2, kE0_m1, kE0_1, kE0_2, kE0_3, kE0_4, kE1_m11, kE1_m2, kE1_m1, kE1_0, kE1_2, kE1_3, kE1_4, kE2_m11, kE2_m2, kE2_m1, kE2_0, kE2_1, kE2_3, kE2_4, kE3_m11, kE3_m2, kE3_m1, kE3_0, kE3_1, kE3_2, kE3_4, kE4_m11, kE4_m2, kE4_m1, kE4_0, kE4_1, kE4_2, kE4_3, kE5_m11, kE5_m2, kE5_m1, kE5_0, kE5_1, kE5_2, kE5_3, kE5_4, kE6_m11, kE6_m2, kE6_m1, kE6_0, kE6_1, kE6_2, kE6_3, kE6_4, kE7_m11, kE7_m2, kE7_m1, kE7_0, kE7_1, kE7_2, kE7_3, kE7_4, kE8_m11, kE8_m2, kE8_m1, kE8_0, kE8_1, kE8_2, kE8_3, kE8_4, kLm14_0, kLm14_1, kLm13_0, kLm13_1, kLm12_0, kLm12_1, kLm11_0, kLm11_1, kLm5_0, kLm5_1, kLm3_0, kLm3_1, kLm2_0, kLm2_1, kLm1_0, kLm1_1, kL0_0, kL0_1, kL1_0, kL1_1, kL2_0, kL2_1, kL3_0, kL3_1, kL4_0, kL4_1, kL5_0, kL5_1, kL6_0, kL6_1, kL7_0, kL7_1, kL8_0, kL8_1, c_bitCount, am_n1, nx]
        | false =>
          rw [if_neg (fun y => by rw [c2] at y; exact Bool.false_ne_true y.2)] at nx
          rw [c2] at ct
          rw [if_pos c1]
          simp only [Bool.false_eq_true, if_false] at ct
          simp only [sX5_fewest_38, sX5_fewest_39, sX5_fewest_41, sX5_fewest_44, sX5_fewest_47, sX5_fewest_49, sX5_fewest_50, sX5_fewest_52, sX5_fewest_55, sX5_fewest_56, sX5_fewest_59, wo_36, wf_36_0, wv_36_0, wf_36_1, wv_36_1, wf_36_2, wv_36_2, wp_36_2, wf_36_3, wv_36_3, wf_36_4, wv_36_4, wf_36_5, wv_36_5, wp_36_5, am_rt_some, am_rt_void, am_rt_none, am_rt_ite, ↓reduceIte, if_true, if_false, and_self, true_and, and_true, true_or, or_true, Bool.false_eq_true, reduceCtorEq, ct, not_true_eq_false, not_false_eq_true, false_and, and_false, true_and, and_true, and_self, or_self, true_or, or_true, false_or, or_false, ite_self, kEm14_m11, kEm14_m2, kEm14_m1, kEm14_0, kEm14_1, kEm14_2, kEm14_3, kEm14_4, kEm13_m11, kEm13_m2, kEm13_m1, kEm13_0, kEm13_1, kEm13_2, kEm13_3, kEm13_4, kEm12_m11, kEm12_m2, kEm12_m1, kEm12_0, kEm12_1, kEm12_2, kEm12_3, kEm12_4, kEm11_m2, kEm11_m1, kEm11_0, kEm11_1, kEm11_2, kEm11_3, kEm11_4, kEm5_m11, kEm5_m2, kEm5_m1, kEm5_0, kEm5_1, kEm5_2, kEm5_3, kEm5_4, kEm3_m11, kEm3_m2, kEm3_m1, kEm3_0, kEm3_1, kEm3_2, kEm3_3, kEm3_4, kEm2_m11, kEm2_m1, kEm2_0, kEm2_1, kEm2_2, kEm2_3, kEm2_4, kEm1_m11, kEm1_m2, kEm1_0, kEm1_1, kEm1_2, kEm1_3, kEm1_4, kE0_m11, kE0_m2, kE0_m1, kE0_1, kE0_2, kE0_3, kE0_4, kE1_m11, kE1_m2, kE1_m1, kE1_0, kE1_2, kE1_3, kE1_4, kE2_m11, kE2_m2, kE2_m1, kE2_0, kE2_1, kE2_3, kE2_4, kE3_m11, kE3_m2, kE3_m1, kE3_0, kE3_1, kE3_2, kE3_4, kE4_m11, kE4_m2, kE4_m1, kE4_0, kE4_1, kE4_2, kE4_3, kE5_m11, kE5_m2, kE5_m1, kE5_0, kE5_1, kE5_2, kE5_3, kE5_4, kE6_m11, kE6_m2, kE6_m1, kE6_0, kE6_1, kE6_2, kE6_3, kE6_4, kE7_m11, kE7_m2, kE7_m1, kE7_0, kE7_1, kE7_2, kE7_3, kE7_4, kE8_m11, kE8_m2, kE8_m1, kE8_0, kE8_1, kE8_2, kE8_3, kE8_4, kLm14_0, kLm14_1, kLm13_0, kLm13_1, kLm12_0, kLm12_1, kLm11_0, kLm11_1, kLm5_0, kLm5_1, kLm3_0, kLm3_1, kLm2_0, kLm2_1, kLm1_0, kLm1_1, kL0_0, kL0_1, kL1_0, kL1_1, kL2_0, kL2_1, kL3_0, kL3_1, kL4_0, kL4_1, kL5_0, kL5_1, kL6_0, kL6_1, kL7_0, kL7_1, kL8_0, kL8_1, if_true, if_false, am_n1, nx]
      · rw [if_neg (fun y => c1 y.1)] at nx
        rw [if_neg c1]
        simp only [sX5_fewest_56, sX5_fewest_59, am_n1, nx]
  simp only [sX5_fewest_9, sX5_fewest_11, sX5_fewest_12, sX5_fewest_14, sX5_fewest_15, sX5_fewest_16]
  have := key (2 ^ z) 0 (by omega)
  rw [show am_EV X (d + 5) mX5_fewest 18 [.ref 36, .ref (69 + 2 * k), .int (-2), .int 9, .int 0] [] (am_wd I2 A2 J1) = _ from this]
  exact am_T.ri F2
end JU

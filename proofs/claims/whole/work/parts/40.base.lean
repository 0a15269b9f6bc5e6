/-! BASE: truth as a number, counters, loops -/
def am_bi (P : Prop) (h : Decidable P) : Int32 := @ite Int32 P h 1 0
theorem am_bi_eq0 {P : Prop} {h : Decidable P} : ((if P then (1 : Int32) else 0) = 0) = ¬ P := by
  by_cases q : P <;> simp [q]
theorem am_bi_eq1 {P : Prop} {h : Decidable P} : ((if P then (1 : Int32) else 0) = 1) = P := by
  by_cases q : P <;> simp [q]
theorem am_bi_01 {P : Prop} {h : Decidable P} : ((if P then (1 : Int32) else 0) = 0 ∨ (if P then (1 : Int32) else 0) = 1) = True := by
  by_cases q : P <;> simp [q]
theorem am_nlt {k m : Nat} (hk : k < 2147483648) (hm : m < 2147483648) : (nI k < nI m) = (k < m) := propext (nI_ltI hk hm)
theorem am_nlit {k : Nat} {x : Int32} (m : Nat) (hx : x = nI m) (hk : k < 2147483648) (hm : m < 2147483648) : (nI k < x) = (k < m) := by rw [hx]; exact am_nlt hk hm
theorem am_n0 {k : Nat} (hk : k < 2147483648) : (nI k < 0) = False := by
  have : ¬ nI k < 0 := nI_pos hk
  simp [this]
theorem am_ncl {k : Nat} (hk : k < 2147483648) : (nI k).toNatClampNeg = k := nI_clamp hk
theorem am_nin {k n : Nat} (hk : k < n) (hn : n < 2147483648) : am_in (nI k) n = true := am_in_iff.mpr (vp_in_nI hk hn)
theorem am_ninF {k n : Nat} (hk : ¬ k < n) (h : k < 2147483648) : am_in (nI k) n = false := by
  unfold am_in
  rw [nI_clamp h]
  simp [hk]
theorem am_n1 (k : Nat) : nI k + 1 = nI (k + 1) := nI_1 k
theorem am_of {x : Int32} (h : ¬ x < 0) : x = nI x.toNatClampNeg ∧ x.toNatClampNeg < 2147483648 := by
  obtain ⟨j, h1, h2⟩ := nI_of h
  rw [h2, nI_clamp h1]
  exact ⟨rfl, h1⟩
/-- a counter's loop -/
def am_fd {α : Type} (g : Nat → α → α) : Nat → Nat → α → α
  | _, 0, s => s
  | k, n + 1, s => am_fd g (k + 1) n (g k s)
theorem am_loop {α β : Type} {n : Nat} {F : Nat → α → β} {g : Nat → α → α} {P : Nat → α → Prop} (h : ∀ k s, k < n → P k s → F k s = F (k + 1) (g k s) ∧ P (k + 1) (g k s)) : ∀ (m k : Nat) (s : α), k + m = n → P k s → F k s = F n (am_fd g k m s) ∧ P n (am_fd g k m s)
  | 0, k, s, hk, hP => by
    have : k = n := by omega
    subst this
    exact ⟨rfl, hP⟩
  | m + 1, k, s, hk, hP => by
    obtain ⟨h1, h2⟩ := h k s (by omega) hP
    obtain ⟨h3, h4⟩ := am_loop h m (k + 1) (g k s) (by omega) h2
    exact ⟨h1.trans h3, h4⟩
theorem am_fd_succ {α : Type} (g : Nat → α → α) : ∀ (n k : Nat) (s : α), am_fd g k (n + 1) s = g (k + n) (am_fd g k n s)
  | 0, k, s => rfl
  | n + 1, k, s => by
    show am_fd g (k + 1) (n + 1) (g k s) = _
    rw [am_fd_succ g n (k + 1) (g k s), show k + 1 + n = k + (n + 1) by omega]
    rfl
/-- worlds -/
theorem am_u_at {α : Type} {A : Nat → α} {c : Nat} {g : α} : am_u A c g c = g := by simp [am_u]
theorem am_u_ne {α : Type} {A : Nat → α} {c i : Nat} {g : α} (h : i ≠ c) : am_u A c g i = A i := by simp [am_u, h]
theorem am_rw {w : am_W} {r : Nat} {c : am_C} : am_rd (am_wr w r c) r = c := by simp [am_rd, am_wr]
theorem am_rwn {w : am_W} {r r' : Nat} {c : am_C} (h : r' ≠ r) : am_rd (am_wr w r c) r' = am_rd w r' := by simp [am_rd, am_wr, h]
theorem am_ww {w : am_W} {r : Nat} {c c' : am_C} : am_wr (am_wr w r c) r c' = am_wr w r c' := by
  unfold am_wr
  simp only [Prod.mk.injEq, true_and]
  funext j
  by_cases h : j = r <;> simp [h]
theorem am_w0 {w : am_W} {r : Nat} {c : am_C} (h : am_rd w r = c) : am_wr w r c = w := by
  unfold am_wr
  obtain ⟨a, b, f⟩ := w
  simp only [Prod.mk.injEq, true_and]
  funext j
  by_cases hj : j = r
  · subst hj
    simp [← h, am_rd]
  · simp [hj]

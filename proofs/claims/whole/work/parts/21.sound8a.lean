/-! SOUND, 8a: what a step can give -/
def am_isR : Instr → Bool
  | .ireturn => true
  | .lreturn => true
  | .areturn => true
  | .return_ => true
  | _ => false
def am_fine (w : am_W) (ins : Instr) : (am_R ⊕ (Nat × List Value × List Value × am_W) ⊕ (am_M × List Value × Nat × List Value × List Value × am_W)) → Prop
  | .inl r => r.2 = w ∧ am_isR ins = true
  | .inr (.inl q) => w.1 ≤ q.2.2.2.1 ∧ w.2.1 ≤ q.2.2.2.2.1
  | .inr (.inr q) => q.2.2.2.2.2 = w
set_option maxHeartbeats 4000000 in
theorem am_shape {X : Nat × (Nat → Int32)} {M : am_M} {pc len : Nat} {L S : List Value} {w : am_W} {ins : Instr} {o : am_R ⊕ (Nat × List Value × List Value × am_W) ⊕ (am_M × List Value × Nat × List Value × List Value × am_W)} (h : am_ins X M pc len L S w ins = some o) : am_fine w ins o := by
  cases ins <;> simp only [am_ins, am_nx, am_jp, am_br, am_i2, am_l2, am_i1, am_ld, am_ll, am_la, am_si, am_sl, am_sa] at h <;> (repeat' split at h) <;> first | (cases h; done) | (cases h; exact ⟨Nat.le_refl _, Nat.le_refl _⟩) | (cases h; exact ⟨Nat.le_succ _, Nat.le_add_right _ _⟩) | (cases h; exact ⟨rfl, rfl⟩) | (cases h; exact rfl)

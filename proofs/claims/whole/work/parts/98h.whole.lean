/-! THE WHOLE: the law's run from its start -/
section WH
theorem whole_run {X : Nat × (Nat → Int32)} (hL : X.1 ≤ 3072) : am_T (am_EV X (0 + 60) mL_law 0 [.float 0, .retAddr 0, .retAddr 0, .retAddr 0] [] (0, 0, fun _ => .inr (1000, []))) (oI 1 RelE) := by
  rw [law_begin]
  exact law_loop hL 512 0 I0 A0 J0 e_rel (by omega) (by omega)
theorem whole_start {p : Program} {e : Env} {s : State} {m : MethodId} {below : List Frame} {meth : Method} {c : Code} (l : Launch) (hflags : l.flags = flags0) {b L : Nat} {xs : Nat → Int32} (hL : L ≤ 3072) (C0 : lw_At p s m meth c b L xs) : W p l e room_1 s m #[Value.ref b] below meth c s.heap [] 0 0 (lw_Z below #[Value.ref b] s) (entryFrame m ([Value.ref b] : List Value).toArray 4) := by
  obtain ⟨v, w, h, I, A, J, hw, hv, hr⟩ := whole_run (X := (L, xs)) hL
  subst hv
  subst hw
  exact am_start l hL C0 ⟨0 + 60, am_wd I A J, by decide, h, by show 114 ≤ 600000; decide, by show 3246 ≤ 7302250; decide⟩
end WH

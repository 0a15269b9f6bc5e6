/-! SOUND, 6: the step -/
section AMN
variable {p : Program} {l : Launch} {e : Env} {R : Room} {s : State} {m : MethodId} {args : Array Value} {below : List Frame} {meth : Method} {c : Code} {H : Heap} {locs : List Loc} {cells slots : Nat} {Q : State → Prop} {ls : Array Slot}
variable {D : va_G} {cT : Nat → ClassId} {b0 : Nat} {oa : UInt32 → Nat} {X : Nat × (Nat → Int32)} {M : am_M}
variable {pc len : Nat} {L S : List Value} {w : am_W} {pc' : Nat} {L' S' : List Value} {w' : am_W}
theorem am_ldW (hC : am_Cx p s m args meth c D cT b0 oa X M) (hS : am_Sm s D cT b0 oa M H locs cells ls L w) {i k : Nat} {ins : Instr} (hi : ins = .iload i ∧ k = 2 ∨ ∃ j : Fin 4, ins = .iload_n j ∧ (j : Nat) = i ∧ k = 1) (hdg : decode M.2.2.1 pc = .ok (ins, len)) (ha : am_ld i k len pc L S w = some (.inr (.inl (pc', L', S', w')))) (kk : am_KK p l e R s m args below meth c Q D cT b0 oa M cells slots w pc' L' S' w') : W p l e R s m args below meth c H locs cells slots Q (F0 m pc ls (S.map (am_cv b0 oa))) := by
  unfold am_ld at ha
  split at ha
  · rename_i x hx'
    obtain ⟨rfl, rfl, rfl, rfl, rfl⟩ := am_nx_some ha
    have hl := am_lo_at hS.2.2.1 hx' rfl
    rcases hi with ⟨rfl, rfl⟩ | ⟨j, rfl, rfl, rfl⟩
    · exact lv_iload hC.1 hC.2.1 hdg hl (am_KK0 kk hS)
    · exact lv_iload_n hC.1 hC.2.1 hdg rfl hl (am_KK0 kk hS)
  · cases ha
theorem am_llW (hC : am_Cx p s m args meth c D cT b0 oa X M) (hS : am_Sm s D cT b0 oa M H locs cells ls L w) {i k : Nat} {ins : Instr} (hi : ins = .lload i ∧ k = 2 ∨ ∃ j : Fin 4, ins = .lload_n j ∧ (j : Nat) = i ∧ k = 1) (hdg : decode M.2.2.1 pc = .ok (ins, len)) (ha : am_ll i k len pc L S w = some (.inr (.inl (pc', L', S', w')))) (kk : am_KK p l e R s m args below meth c Q D cT b0 oa M cells slots w pc' L' S' w') : W p l e R s m args below meth c H locs cells slots Q (F0 m pc ls (S.map (am_cv b0 oa))) := by
  unfold am_ll at ha
  split at ha
  · rename_i x a hx' ha'
    obtain ⟨rfl, rfl, rfl, rfl, rfl⟩ := am_nx_some ha
    have hl := am_lo_at hS.2.2.1 hx' (am_ok_iff.mpr ⟨(fun _ z => (by cases z)), Or.inr ⟨a, ha'⟩⟩)
    rcases hi with ⟨rfl, rfl⟩ | ⟨j, rfl, rfl, rfl⟩
    · exact lv_lload hC.1 hC.2.1 hdg hl (am_KK0 kk hS)
    · exact lv_lload_n hC.1 hC.2.1 hdg rfl hl (am_KK0 kk hS)
  · cases ha
theorem am_laW (hC : am_Cx p s m args meth c D cT b0 oa X M) (hS : am_Sm s D cT b0 oa M H locs cells ls L w) {i k : Nat} {ins : Instr} (hi : ins = .aload i ∧ k = 2 ∨ ∃ j : Fin 4, ins = .aload_n j ∧ (j : Nat) = i ∧ k = 1) (hdg : decode M.2.2.1 pc = .ok (ins, len)) (ha : am_la i k len pc L S w = some (.inr (.inl (pc', L', S', w')))) (kk : am_KK p l e R s m args below meth c Q D cT b0 oa M cells slots w pc' L' S' w') : W p l e R s m args below meth c H locs cells slots Q (F0 m pc ls (S.map (am_cv b0 oa))) := by
  unfold am_la at ha
  split at ha
  · rename_i x hx'
    obtain ⟨rfl, rfl, rfl, rfl, rfl⟩ := am_nx_some ha
    have hl := am_lo_at hS.2.2.1 hx' rfl
    rcases hi with ⟨rfl, rfl⟩ | ⟨j, rfl, rfl, rfl⟩
    · exact lv_aload hC.1 hC.2.1 hdg hl (am_KK0 kk hS)
    · exact lv_aload_n hC.1 hC.2.1 hdg rfl hl (am_KK0 kk hS)
  · rename_i x hx'
    obtain ⟨rfl, rfl, rfl, rfl, rfl⟩ := am_nx_some ha
    have hl := am_lo_at hS.2.2.1 hx' rfl
    rcases hi with ⟨rfl, rfl⟩ | ⟨j, rfl, rfl, rfl⟩
    · exact lv_aload hC.1 hC.2.1 hdg hl (am_KK0 kk hS)
    · exact lv_aload_n hC.1 hC.2.1 hdg rfl hl (am_KK0 kk hS)
  · cases ha
theorem am_siW (hC : am_Cx p s m args meth c D cT b0 oa X M) (hS : am_Sm s D cT b0 oa M H locs cells ls L w) {i k : Nat} {ins : Instr} (hi : ins = .istore i ∧ k = 2 ∨ ∃ j : Fin 4, ins = .istore_n j ∧ (j : Nat) = i ∧ k = 1) (hdg : decode M.2.2.1 pc = .ok (ins, len)) (ha : am_si i k len pc L S w = some (.inr (.inl (pc', L', S', w')))) (kk : am_KK p l e R s m args below meth c Q D cT b0 oa M cells slots w pc' L' S' w') : W p l e R s m args below meth c H locs cells slots Q (F0 m pc ls (S.map (am_cv b0 oa))) := by
  unfold am_si at ha
  split at ha
  · rename_i x S0
    split at ha
    · rename_i hlt
      obtain ⟨rfl, rfl, rfl, rfl, rfl⟩ := am_nx_some ha
      have hk : ∀ ls', lv_has ls' M.2.2.2.1 ((i, am_cv b0 oa (.int x)) :: (am_lo b0 oa L).filter (fun q => !(q.1 == i) && !(q.1 + 1 == i && q.2.category == 2))) → W p l e R s m args below meth c H locs cells slots Q (F0 m (pc + len) ls' (S'.map (am_cv b0 oa))) := fun ls' hl => kk H locs ls' cells slots rfl rfl (am_stepL (lv' := []) hS hlt (fun _ z => by cases z) hl)
      rcases hi with ⟨rfl, rfl⟩ | ⟨j, rfl, rfl, rfl⟩
      · exact lv_istore hC.1 hC.2.1 hdg hS.2.2.1 (by rw [← hS.2.2.2.1]; exact hlt) rfl hk
      · exact lv_istore_n hC.1 hC.2.1 hdg rfl hS.2.2.1 (by rw [← hS.2.2.2.1]; exact hlt) rfl hk
    · cases ha
  · cases ha
theorem am_saW (hC : am_Cx p s m args meth c D cT b0 oa X M) (hS : am_Sm s D cT b0 oa M H locs cells ls L w) {i k : Nat} {ins : Instr} (hi : ins = .astore i ∧ k = 2 ∨ ∃ j : Fin 4, ins = .astore_n j ∧ (j : Nat) = i ∧ k = 1) (hdg : decode M.2.2.1 pc = .ok (ins, len)) (ha : am_sa i k len pc L S w = some (.inr (.inl (pc', L', S', w')))) (kk : am_KK p l e R s m args below meth c Q D cT b0 oa M cells slots w pc' L' S' w') : W p l e R s m args below meth c H locs cells slots Q (F0 m pc ls (S.map (am_cv b0 oa))) := by
  unfold am_sa at ha
  split at ha
  · rename_i x S0
    split at ha
    · rename_i hlt
      obtain ⟨rfl, rfl, rfl, rfl, rfl⟩ := am_nx_some ha
      have hk : ∀ ls', lv_has ls' M.2.2.2.1 ((i, am_cv b0 oa (.ref x)) :: (am_lo b0 oa L).filter (fun q => !(q.1 == i) && !(q.1 + 1 == i && q.2.category == 2))) → W p l e R s m args below meth c H locs cells slots Q (F0 m (pc + len) ls' (S'.map (am_cv b0 oa))) := fun ls' hl => kk H locs ls' cells slots rfl rfl (am_stepL (lv' := []) hS hlt (fun _ z => by cases z) hl)
      rcases hi with ⟨rfl, rfl⟩ | ⟨j, rfl, rfl, rfl⟩
      · exact lv_astore hC.1 hC.2.1 hdg hS.2.2.1 (by rw [← hS.2.2.2.1]; exact hlt) rfl hk
      · exact lv_astore_n hC.1 hC.2.1 hdg rfl hS.2.2.1 (by rw [← hS.2.2.2.1]; exact hlt) rfl hk
    · cases ha
  · rename_i x S0
    split at ha
    · rename_i hlt
      obtain ⟨rfl, rfl, rfl, rfl, rfl⟩ := am_nx_some ha
      have hk : ∀ ls', lv_has ls' M.2.2.2.1 ((i, am_cv b0 oa (.float x)) :: (am_lo b0 oa L).filter (fun q => !(q.1 == i) && !(q.1 + 1 == i && q.2.category == 2))) → W p l e R s m args below meth c H locs cells slots Q (F0 m (pc + len) ls' (S'.map (am_cv b0 oa))) := fun ls' hl => kk H locs ls' cells slots rfl rfl (am_stepL (lv' := []) hS hlt (fun _ z => by cases z) hl)
      rcases hi with ⟨rfl, rfl⟩ | ⟨j, rfl, rfl, rfl⟩
      · exact lv_astore hC.1 hC.2.1 hdg hS.2.2.1 (by rw [← hS.2.2.2.1]; exact hlt) rfl hk
      · exact lv_astore_n hC.1 hC.2.1 hdg rfl hS.2.2.1 (by rw [← hS.2.2.2.1]; exact hlt) rfl hk
    · cases ha
  · cases ha
theorem am_slW (hC : am_Cx p s m args meth c D cT b0 oa X M) (hS : am_Sm s D cT b0 oa M H locs cells ls L w) {i : Nat} (hdg : decode M.2.2.1 pc = .ok (.lstore i, len)) (ha : am_sl i 2 len pc L S w = some (.inr (.inl (pc', L', S', w')))) (kk : am_KK p l e R s m args below meth c Q D cT b0 oa M cells slots w pc' L' S' w') : W p l e R s m args below meth c H locs cells slots Q (F0 m pc ls (S.map (am_cv b0 oa))) := by
  unfold am_sl at ha
  split at ha
  · rename_i x S0
    split at ha
    · rename_i hlt
      obtain ⟨rfl, rfl, rfl, rfl, rfl⟩ := am_nx_some ha
      exact lv_lstore hC.1 hC.2.1 hdg hS.2.2.1 (by rw [← hS.2.2.2.1]; exact hlt) rfl (fun ls' hl => kk H locs ls' cells slots rfl rfl ⟨hS.1, hS.2.1, am_has_mono hl (am_lo_set2 hlt), by rw [List.length_set, List.length_set]; exact hS.2.2.2.1, hS.2.2.2.2⟩)
    · cases ha
  · cases ha
theorem am_brW (hS : am_Sm s D cT b0 oa M H locs cells ls L w) {off : Int} {b : Bool} (ha : am_br len pc off b L S w = some (.inr (.inl (pc', L', S', w')))) (kk : am_KK p l e R s m args below meth c Q D cT b0 oa M cells slots w pc' L' S' w') : len = 3 ∧ ∃ t : Nat, (pc : Int) + off = (t : Int) ∧ (b = true → W p l e R s m args below meth c H locs cells slots Q (F0 m t ls (S.map (am_cv b0 oa)))) ∧ (b = false → W p l e R s m args below meth c H locs cells slots Q (F0 m (pc + 3) ls (S.map (am_cv b0 oa)))) := by
  unfold am_br at ha
  split at ha
  · rename_i hlen
    cases ha
    refine ⟨hlen.1, ((pc : Int) + off).toNat, (Int.toNat_of_nonneg hlen.2).symm, fun hb => ?_, fun hb => ?_⟩
    · subst hb
      exact am_KK0 kk hS
    · subst hb
      exact am_KK0 kk hS
  · cases ha
theorem am_ifW (hC : am_Cx p s m args meth c D cT b0 oa X M) {cd : ClassFile.Cond} {off : Int} {x : Int32} {rest : List Value} (hdg : decode M.2.2.1 pc = .ok (.ifCond cd off, 3)) {t : Nat} (hoff : (pc : Int) + off = (t : Int)) (key : am_cmp cd x 0 = true → W p l e R s m args below meth c H locs cells slots Q (F0 m t ls rest)) (hf : am_cmp cd x 0 = false → W p l e R s m args below meth c H locs cells slots Q (F0 m (pc + 3) ls rest)) : W p l e R s m args below meth c H locs cells slots Q (F0 m pc ls (.int x :: rest)) := by
  cases cd with
  | eq => exact lv_if_eq hC.1 hC.2.1 hdg hoff (fun h => key (by simp [am_cmp, h])) (fun h => hf (by simp [am_cmp, h]))
  | ne => exact lv_if_ne hC.1 hC.2.1 hdg hoff (fun h => key (by simp [am_cmp, h])) (fun h => hf (by simp [am_cmp, h]))
  | lt => exact lv_if_lt hC.1 hC.2.1 hdg hoff (fun h => key (by simp [am_cmp, h])) (fun h => hf (by simp [am_cmp, h]))
  | ge => exact lv_if_ge hC.1 hC.2.1 hdg hoff (fun h => key (by simp [am_cmp, h])) (fun h => hf (by simp only [am_cmp, decide_eq_false_iff_not]; exact h))
  | gt => exact lv_if_gt hC.1 hC.2.1 hdg hoff (fun h => key (by simp [am_cmp, h])) (fun h => hf (by simp only [am_cmp, decide_eq_false_iff_not]; exact h))
  | le => exact lv_if_le hC.1 hC.2.1 hdg hoff (fun h => key (by simp [am_cmp, h])) (fun h => hf (by simp only [am_cmp, decide_eq_false_iff_not]; exact h))
theorem am_icW (hC : am_Cx p s m args meth c D cT b0 oa X M) {cd : ClassFile.Cond} {off : Int} {x y : Int32} {rest : List Value} (hdg : decode M.2.2.1 pc = .ok (.if_icmp cd off, 3)) {t : Nat} (hoff : (pc : Int) + off = (t : Int)) (key : am_cmp cd x y = true → W p l e R s m args below meth c H locs cells slots Q (F0 m t ls rest)) (hf : am_cmp cd x y = false → W p l e R s m args below meth c H locs cells slots Q (F0 m (pc + 3) ls rest)) : W p l e R s m args below meth c H locs cells slots Q (F0 m pc ls (.int y :: .int x :: rest)) := by
  cases cd with
  | eq => exact lv_icmp_eq hC.1 hC.2.1 hdg hoff (fun h => key (by simp [am_cmp, h])) (fun h => hf (by simp [am_cmp, h]))
  | ne => exact lv_icmp_ne hC.1 hC.2.1 hdg hoff (fun h => key (by simp [am_cmp, h])) (fun h => hf (by simp [am_cmp, h]))
  | lt => exact lv_icmp_lt hC.1 hC.2.1 hdg hoff (fun h => key (by simp [am_cmp, h])) (fun h => hf (by simp only [am_cmp, decide_eq_false_iff_not]; exact h))
  | ge => exact lv_icmp_ge hC.1 hC.2.1 hdg hoff (fun h => key (by simp [am_cmp, h])) (fun h => hf (by simp only [am_cmp, decide_eq_false_iff_not]; exact h))
  | gt => exact lv_icmp_gt hC.1 hC.2.1 hdg hoff (fun h => key (by simp [am_cmp, h])) (fun h => hf (by simp only [am_cmp, decide_eq_false_iff_not]; exact h))
  | le => exact lv_icmp_le hC.1 hC.2.1 hdg hoff (fun h => key (by simp [am_cmp, h])) (fun h => hf (by simp only [am_cmp, decide_eq_false_iff_not]; exact h))
end AMN

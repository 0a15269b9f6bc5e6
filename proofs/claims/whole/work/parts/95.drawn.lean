/-! drawn: both -/
section DR
variable {X : Nat × (Nat → Int32)} {d : Nat} {I A : TI} {J : TJ} {w : am_W}
def nzF (z : Int32) : Int32 := z * 1103515245 + 12345
def fzF (z : Int32) : Int32 := (z.toUInt32 >>> ((8 : Int32).toUInt32 &&& Int32.toUInt32 31)).toInt32 - (z.toUInt32 >>> ((8 : Int32).toUInt32 &&& Int32.toUInt32 31)).toInt32 / 10 * 10
def zF (z : Int32) : Nat → Int32
  | 0 => z
  | m + 1 => nzF (zF z m)
/-- a taste behind m minutes by drawn fires -/
def tmF (G : VF) (s all : Int32) (i : Nat) (z : Int32) : Nat → Int32
  | 0 => 0
  | m + 1 => gT G s (tmF G s all i z m) (nI m) (fzF (zF z (m + 1))) (nI i) all
/-- so many terms: what is drawn from, and the sum -/
def drF (g : Int32 → Nat → Int32) (M tt : Nat) (z : Int32) : Nat → Int32 × Int32
  | 0 => (z, 0)
  | n + 1 => (zF (drF g M tt z n).1 M, (drF g M tt z n).2 + ofF (g (drF g M tt z n).1) tt)
theorem drF_cg {g g' : Int32 → Nat → Int32} {M tt : Nat} {z : Int32} (h : ∀ z i, i < 5 → g z i = g' z i) : ∀ n, drF g M tt z n = drF g' M tt z n
  | 0 => rfl
  | n + 1 => by
    unfold drF
    rw [drF_cg h n]
    have e : ∀ z, ofF (g z) tt = ofF (g' z) tt := fun z => by
      unfold ofF
      by_cases q : tt < 5
      · rw [if_pos q, if_pos q, h z tt q]
      · rw [if_neg q, if_neg q]; exact smf_cg (fun j hj => h z j hj)
    rw [e]
theorem tmF_cg {G : VF} {s s' all all' : Int32} {i : Nat} {z : Int32} (h1 : s = s') (h2 : all = all') (m : Nat) : tmF G s all i z m = tmF G s' all' i z m := by rw [h1, h2]
theorem sb_of {ta : Nat → Int32} {tt : Nat} (ht : tt ≤ 5) : sbF ta (if tt < 5 then tt else 0) ((if tt < 5 then tt else 4) + 1 - (if tt < 5 then tt else 0)) = ofF ta tt := by
  unfold ofF
  by_cases q : tt < 5
  · rw [if_pos q, if_pos q, if_pos q, show tt + 1 - tt = 1 by omega]
    show (0 : Int32) + ta (tt + 0) = ta tt
    rw [Int32.zero_add]; rfl
  · rw [if_neg q, if_neg q, if_neg q]
    show sbF ta 0 5 = smf ta 5
    have : ∀ n, sbF ta 0 n = smf ta n := fun n => by
      induction n with
      | zero => rfl
      | succ n ih => show sbF ta 0 n + ta (0 + n) = smf ta n + ta n; rw [ih, Nat.zero_add]
    exact this 5
theorem c_drawnTerms {G : VF} {z0 : Int32} {T M tt : Nat} (hG : cLaw G (A 8) (A 9) (A 10) (I 7 3)) (ht : tt ≤ 5) (hT : T ≤ 30) (hM : M ≤ 40) (hth : ∀ j, j < 8 → in09 (A 16 j)) : am_T (am_CL X (d + 8) mX2_drawnTerms [.ref 6, .int z0, .int (nI T), .int (nI M), .int (nI tt)] (am_wd I A J)) (oI (drF (fun z i => tmF G (suF (A 16) (A 13) i 8) (smf (A 16) 8) i z M) M tt z0 T).2 fun I' A' J' => Fr [(15, 4), (15, 2)] [11, 12, 17, 18] [] I A J I' A' J') := by
  let g : Int32 → Nat → Int32 := fun z i => tmF G (suF (A 16) (A 13) i 8) (smf (A 16) 8) i z M
  let a := if tt < 5 then tt else 0
  let b := if tt < 5 then tt else 4
  have hab : a ≤ b := by show (if tt < 5 then tt else 0) ≤ (if tt < 5 then tt else 4); by_cases q : tt < 5 <;> simp [q]
  have hb : b < 5 := by show (if tt < 5 then tt else 4) < 5; by_cases q : tt < 5 <;> simp [q]
  simp only [eX2_drawnTerms, sX2_drawnTerms_0, sX2_drawnTerms_1, sX2_drawnTerms_3, sX2_drawnTerms_4, sX2_drawnTerms_6, sX2_drawnTerms_7, sX2_drawnTerms_10, sX2_drawnTerms_11, sX2_drawnTerms_14, wo_6, wf_6_0, wv_6_0, wf_6_1, wv_6_1, wf_6_2, wv_6_2, wp_6_2, wf_6_3, wv_6_3, wf_6_4, wv_6_4, wf_6_5, wv_6_5, wf_6_6, wv_6_6, wp_6_6, wo_15, wf_15_0, wv_15_0, wf_15_1, wv_15_1, wf_15_2, wv_15_2, wp_15_2, wf_15_3, wv_15_3, wf_15_4, wv_15_4, wp_15_4, am_rt_some, am_rt_void, am_rt_none, am_rt_ite, ↓reduceIte, if_true, if_false, and_self, true_and, and_true, true_or, or_true, Bool.false_eq_true, reduceCtorEq]
  refine am_T.rtU (c_weigh15 hth) ?_
  intro I1 A1 J1 ⟨f1, g1, g2⟩
  have F1 : Fr [(15, 4), (15, 2)] [11, 12, 17, 18] [] I A J I1 A1 J1 := f1.mo (by decide) (by decide) (by decide)
  have inn : ∀ (q n : Nat) (z : Int32) (I3 A3 : TI) (t : Nat) (acc : Int32) (z8 : Value) {Q}, n + q = M → Fr [(15, 4), (15, 2)] [11, 12, 17, 18] [] I A J I3 A3 J1 → I3 15 4 = smf (A 16) 8 → I3 15 2 = nI n → (∀ i, i < 5 → A3 18 i = suF (A 16) (A 13) i 8) → (∀ i, a ≤ i → i ≤ b → A3 17 i = tmF G (suF (A 16) (A 13) i 8) (smf (A 16) 8) i z n) → (∀ I4 A4, Fr [(15, 4), (15, 2)] [11, 12, 17, 18] [] I A J I4 A4 J1 → I4 15 4 = smf (A 16) 8 → (∀ i, i < 5 → A4 18 i = suF (A 16) (A 13) i 8) → (∀ i, a ≤ i → i ≤ b → A4 17 i = g z i) → am_T (am_EV X (d + 7) mX2_drawnTerms 88 [.ref 6, .int z0, .int (nI T), .int (nI M), .int (nI tt), .int (zF z M), .int acc, .int (nI t), .int (nI M)] [] (am_wd I4 A4 J1)) Q) → am_T (am_EV X (d + 7) mX2_drawnTerms 36 [.ref 6, .int z0, .int (nI T), .int (nI M), .int (nI tt), .int (zF z n), .int acc, .int (nI t), .int (nI n)] [] (am_wd I3 A3 J1)) Q := by
    intro q
    induction q with
    | zero =>
      intro n z I3 A3 t acc z8 Q hn f x1 x2 x3 x4 k
      have nM : n = M := by omega
      subst nM
      simp only [sX2_drawnTerms_36, sX2_drawnTerms_38, sX2_drawnTerms_39, am_rt_some, am_rt_void, am_rt_none, am_rt_ite, ↓reduceIte, if_true, if_false, and_self, true_and, and_true, true_or, or_true, Bool.false_eq_true, reduceCtorEq, am_nlt (show n < 2147483648 by omega) (show n < 2147483648 by omega), Nat.lt_irrefl]
      exact k I3 A3 f x1 x3 x4
    | succ q ih =>
      intro n z I3 A3 t acc z8 Q hn f x1 x2 x3 x4 k
      rw [sX2_drawnTerms_36]
      simp only [sX2_drawnTerms_38, sX2_drawnTerms_39, sX2_drawnTerms_42, sX2_drawnTerms_44, sX2_drawnTerms_46, sX2_drawnTerms_47, sX2_drawnTerms_50, sX2_drawnTerms_51, sX2_drawnTerms_53, sX2_drawnTerms_54, sX2_drawnTerms_57, sX2_drawnTerms_59, sX2_drawnTerms_62, sX2_drawnTerms_64, sX2_drawnTerms_67, sX2_drawnTerms_68, sX2_drawnTerms_71, sX2_drawnTerms_73, sX2_drawnTerms_75, sX2_drawnTerms_76, sX2_drawnTerms_78, sX2_drawnTerms_79, wo_6, wf_6_0, wv_6_0, wf_6_1, wv_6_1, wf_6_2, wv_6_2, wp_6_2, wf_6_3, wv_6_3, wf_6_4, wv_6_4, wf_6_5, wv_6_5, wf_6_6, wv_6_6, wp_6_6, wo_15, wf_15_0, wv_15_0, wf_15_1, wv_15_1, wf_15_2, wv_15_2, wp_15_2, wf_15_3, wv_15_3, wf_15_4, wv_15_4, wp_15_4, am_rt_some, am_rt_void, am_rt_none, am_rt_ite, ↓reduceIte, if_true, if_false, and_self, true_and, and_true, true_or, or_true, Bool.false_eq_true, reduceCtorEq, am_nlt (show n < 2147483648 by omega) (show M < 2147483648 by omega), show n < M by omega, c_first ht, c_last ht, q10, if_false]
      refine am_T.rtU (c_passFor15 (a := a) (b := b) (fi := fzF (zF z (n + 1))) (t_lac f (by decide) hG) hab hb) ?_
      intro I4 A4 J4 ⟨f4, h1, h2⟩
      have j4 : J4 = J1 := f4.jeq
      subst j4
      have F4 := f.tr (f4.mo (li' := [(15, 4), (15, 2)]) (la' := [11, 12, 17, 18]) (by decide) (by decide) (by decide))
      simp only [sX2_drawnTerms_82, sX2_drawnTerms_85, am_n1]
      refine ih (n + 1) z I4 A4 t acc z8 (by omega) F4 ((f4.i 15 4 (by decide)).trans x1) (by rw [h1, x2, mn99_n (by omega)]) (fun i hi => by rw [f4.a 18 (by decide)]; exact x3 i hi) (fun i h3 h4 => ?_) k
      rw [h2 i (by omega), if_pos ⟨h3, h4⟩, x3 i (by omega), x4 i h3 h4, x2, x1]
      rfl
  have out : ∀ (q t : Nat) (I3 A3 : TI) (z8 : Value), t + q = T → Fr [(15, 4), (15, 2)] [11, 12, 17, 18] [] I A J I3 A3 J1 → I3 15 4 = smf (A 16) 8 → (∀ i, i < 5 → A3 18 i = suF (A 16) (A 13) i 8) → am_T (am_EV X (d + 7) mX2_drawnTerms 20 [.ref 6, .int z0, .int (nI T), .int (nI M), .int (nI tt), .int (drF g M tt z0 t).1, .int (drF g M tt z0 t).2, .int (nI t), z8] [] (am_wd I3 A3 J1)) (oI (drF g M tt z0 T).2 fun I' A' J' => Fr [(15, 4), (15, 2)] [11, 12, 17, 18] [] I A J I' A' J') := by
    intro q
    induction q with
    | zero =>
      intro t I3 A3 z8 hq f x1 x3
      have tT : t = T := by omega
      subst tT
      simp only [sX2_drawnTerms_20, sX2_drawnTerms_22, sX2_drawnTerms_23, sX2_drawnTerms_116, sX2_drawnTerms_118, am_rt_some, am_rt_void, am_rt_none, am_rt_ite, ↓reduceIte, if_true, if_false, and_self, true_and, and_true, true_or, or_true, Bool.false_eq_true, reduceCtorEq, am_nlt (show t < 2147483648 by omega) (show t < 2147483648 by omega), Nat.lt_irrefl]
      exact am_T.ri f
    | succ q ih =>
      intro t I3 A3 z8 hq f x1 x3
      rw [sX2_drawnTerms_20]
      simp only [sX2_drawnTerms_22, sX2_drawnTerms_23, sX2_drawnTerms_26, sX2_drawnTerms_27, sX2_drawnTerms_30, sX2_drawnTerms_33, sX2_drawnTerms_34, wo_6, wf_6_0, wv_6_0, wf_6_1, wv_6_1, wf_6_2, wv_6_2, wp_6_2, wf_6_3, wv_6_3, wf_6_4, wv_6_4, wf_6_5, wv_6_5, wf_6_6, wv_6_6, wp_6_6, wo_15, wf_15_0, wv_15_0, wf_15_1, wv_15_1, wf_15_2, wv_15_2, wp_15_2, wf_15_3, wv_15_3, wf_15_4, wv_15_4, wp_15_4, am_rt_some, am_rt_void, am_rt_none, am_rt_ite, ↓reduceIte, if_true, if_false, and_self, true_and, and_true, true_or, or_true, Bool.false_eq_true, reduceCtorEq, am_nlt (show t < 2147483648 by omega) (show T < 2147483648 by omega), show t < T by omega, c_begin15]
      refine inn M 0 (drF g M tt z0 t).1 _ _ t (drF g M tt z0 t).2 z8 (by omega) ((f.ui (by decide)).ua (by decide)) x1 (by rw [am_u2_at]; rfl) (fun i hi => x3 i hi) (fun i h3 h4 => by rw [am_u_at]; unfold am_flI; rw [if_pos (by omega)]; rfl) ?_
      intro I4 A4 f4 y1 y3 y4
      have so := c_sumOf15 (X := X) (d := d + 6) (I := I4) (A := A4) (J := J1) hab hb
      have eo : sbF (A4 17) a (b + 1 - a) = ofF (g (drF g M tt z0 t).1) tt := by
        rw [show sbF (A4 17) a (b + 1 - a) = ofF (A4 17) tt from sb_of ht]
        unfold ofF
        by_cases r : tt < 5
        · rw [if_pos r, if_pos r]
          exact y4 tt (by show (if tt < 5 then tt else 0) ≤ tt; rw [if_pos r]; exact Nat.le_refl tt) (by show tt ≤ (if tt < 5 then tt else 4); rw [if_pos r]; exact Nat.le_refl tt)
        · rw [if_neg r, if_neg r]
          refine smf_cg (fun j hj => y4 j ?_ ?_)
          · show (if tt < 5 then tt else 0) ≤ j; rw [if_neg r]; exact Nat.zero_le j
          · show j ≤ (if tt < 5 then tt else 4); rw [if_neg r]; omega
      rw [eo] at so
      simp only [sX2_drawnTerms_88, sX2_drawnTerms_90, sX2_drawnTerms_91, sX2_drawnTerms_94, sX2_drawnTerms_96, sX2_drawnTerms_99, sX2_drawnTerms_101, sX2_drawnTerms_104, sX2_drawnTerms_107, sX2_drawnTerms_108, sX2_drawnTerms_110, sX2_drawnTerms_113, wo_6, wf_6_0, wv_6_0, wf_6_1, wv_6_1, wf_6_2, wv_6_2, wp_6_2, wf_6_3, wv_6_3, wf_6_4, wv_6_4, wf_6_5, wv_6_5, wf_6_6, wv_6_6, wp_6_6, wo_15, wf_15_0, wv_15_0, wf_15_1, wv_15_1, wf_15_2, wv_15_2, wp_15_2, wf_15_3, wv_15_3, wf_15_4, wv_15_4, wp_15_4, am_rt_some, am_rt_void, am_rt_none, am_rt_ite, ↓reduceIte, if_true, if_false, and_self, true_and, and_true, true_or, or_true, Bool.false_eq_true, reduceCtorEq, c_first ht, c_last ht, show am_CL X (d + 7) mX6_sumOfTastes [.ref 15, .int (nI (if tt < 5 then tt else 0)), .int (nI (if tt < 5 then tt else 4))] (am_wd I4 A4 J1) = _ from so, am_n1]
      exact ih (t + 1) I4 A4 (.int (nI M)) (by omega) f4 y1 y3
  simp only [sX2_drawnTerms_17, sX2_drawnTerms_18]
  exact out T 0 I1 A1 _ (by omega) F1 g1 g2
end DR

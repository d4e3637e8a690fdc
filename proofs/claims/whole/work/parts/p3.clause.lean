/-! ===== THE CLASS: the text, a clause ===== -/
section XPCLAUSE
variable {d : Nat} {h : qH} {R : qRes} {tx : List Nat}
def ptX (h : qH) (c : Nat) (q : cls4) : Prop := match q with
  | .inl (k, n, m) => hi h 52 (c * 5) = iN k ∧ hi h 52 (c * 5 + 1) = iN n ∧ hi h 52 (c * 5 + 2) = iN m
  | .inr q => hi h 52 (c * 5) = iN 4 ∧ ∀ j, j < 4 → hi h 52 (c * 5 + 1 + j) = cmI q j
set_option maxRecDepth 100000 in
set_option maxHeartbeats 64000000 in
theorem x_parseClause {a c cn : Nat} (s : ShX h) (t : TxX h tx) (v : AtX h tx a) (vf : FtX h none) (ha : skp tx a = a) (m : xi h 50 5 = iN c) (hc : c < 27) (m3 : xi h 50 3 = iN cn) (h8 : cn ≤ 8) : ∃ h', (∀ R, qMC (d + 6) 76 [.ref 50] h R ↔ R = (none, h')) ∧ ChX [52] [(50, 2), (50, 3), (50, 6), (50, 7)] 0 h h' ∧ (∀ i, i < c * 5 ∨ c * 5 + 5 ≤ i → hi h' 52 i = hi h 52 i) ∧ ∃ a', AtX h' tx a' ∧ FtX h' (erQ (pCl0 tx a cn)) ∧ ∀ r, pCl0 tx a cn = .inr r → r.1 = a' ∧ ptX h' c r.2 ∧ xi h' 50 3 = iN (cn + isCm r.2) := by
  have ma := v.2
  have pw : ∀ (k : Nat) (w : List Nat), 1 ≤ k ∧ k ≤ 8 → qsln k = w.length → w.length ≤ 8 → (∀ j, j < w.length → qsch k j = iN (w.getD j 0) ∧ w.getD j 0 < 256) → ∀ g, ChX [] [(50, 2)] 0 h g → AtX g tx a → ∃ g', (∀ R, qMC (d + 5) 82 [.ref 50, .ref k] g R ↔ R = (some (.int (if wdE tx a = w then iN 1 else iN 0)), g')) ∧ ChX [] [(50, 2)] 0 h g' ∧ AtX g' tx (if wdE tx a = w then a + w.length else a) := fun k w k1 k2 k3 k4 g cg vg => by
    obtain ⟨g', r, c', v'⟩ := x_passWord (d := d + 2) cg.sh (t.ch cg s (by intro z; cases z) (by decide)) vg k1 k2 k3 k4
    rw [ha] at r v'
    exact ⟨g', r, cg.trans0 c', v'⟩
  have shape : ∀ (k b : Nat) (g : qH), ChX [] [(50, 2)] 0 h g → AtX g tx b → k ≤ 2 → pCl0 tx a cn = (pB (pShp tx b k) fun q => .inr (q.1, .inl (k, q.2.1, q.2.2))) → (∀ g', (∀ R, qMC (d + 5) 77 [.ref 50, .int (iN k)] g R ↔ R = (none, g')) → ∀ R, qMC (d + 6) 76 [.ref 50] h R ↔ R = (none, g')) → ∃ h', (∀ R, qMC (d + 6) 76 [.ref 50] h R ↔ R = (none, h')) ∧ ChX [52] [(50, 2), (50, 3), (50, 6), (50, 7)] 0 h h' ∧ (∀ i, i < c * 5 ∨ c * 5 + 5 ≤ i → hi h' 52 i = hi h 52 i) ∧ ∃ a', AtX h' tx a' ∧ FtX h' (erQ (pCl0 tx a cn)) ∧ ∀ r, pCl0 tx a cn = .inr r → r.1 = a' ∧ ptX h' c r.2 ∧ xi h' 50 3 = iN (cn + isCm r.2) := fun k b g cg vg hk e run => by
    have e' : pCl0 tx a cn = pB (pNum tx b 2 4) fun q => .inr (q.1, .inl (k, q.2, 0)) := by
      rw [e]
      unfold pShp
      rw [show (fun q : Nat × Nat => if k = 3 then pB (pWrd tx q.1 w_of) fun q2 => pB (pNum tx q2 (q.2 + 1) (rMost q.2)) fun q3 => .inr (q3.1, q.2, q3.2) else (.inr (q.1, q.2, 0) : pFl ⊕ (Nat × Nat × Nat))) = fun q => .inr (q.1, q.2, 0) from funext fun q => if_neg (by omega)]
      cases pNum tx b 2 4 <;> rfl
    obtain ⟨g', n, r', hn, c', y', a', v', f', e2⟩ := x_parseShape (d := d) (k := k) cg.sh (t.ch cg s (by intro z; cases z) (by decide)) vg (vf.ch cg (by decide) (by decide)) ((cg.xi (by decide) (by decide)).trans m) hc
    have cc : ChX [52] [(50, 2), (50, 3), (50, 6), (50, 7)] 0 h g' := (cg.mono (by intro _ z; cases z) (by decide) (Nat.le_refl _)).trans0 (c'.mono (fun _ z => z) (by decide) (Nat.le_refl _))
    refine ⟨g', run g' r', cc, fun i hi' => ?_, a', v', ?_, fun r hr => ?_⟩
    · rw [y', if_neg (by omega), if_neg (by omega), if_neg (by omega), row52 cg s]
    · rw [e', er_map]; exact f'
    · rw [e'] at hr
      obtain ⟨q, h1, h2⟩ := pB_ok hr
      have := e2 q h1
      injection h2 with h2
      rw [← h2, this]
      refine ⟨rfl, ⟨?_, ?_, ?_⟩, ?_⟩
      · rw [y', if_neg (by omega), if_neg (by omega), if_pos rfl]
      · rw [y', if_neg (by omega), if_pos rfl]
      · rw [y', if_pos rfl]
      · exact (c'.xi (by decide) (by decide)).trans ((cg.xi (by decide) (by decide)).trans m3)
  obtain ⟨g1, r1, c1, v1⟩ := pw 1 w_cube ⟨by decide, by decide⟩ rfl (by decide) (by decide) h (ChX.refl s) v
  have sg1 := c1.sh
  by_cases z1 : wdE tx a = w_cube
  · rw [if_pos z1] at r1 v1
    refine shape 0 _ g1 c1 v1 (by decide) (by unfold pCl0; rw [ha, z1]; rfl) fun g' r' R => ?_
    simp (disch := first | assumption | omega) only [e76_0, e76_1, e76_4, e76_5, e76_6, e76_8, e76_11, e76_14, e76_15, e76_16, e76_19, e76_22, e76_23, e76_25, e76_28, e76_31, e76_32, e76_33, e76_36, e76_39, e76_40, e76_42, e76_45, e76_48, e76_49, e76_50, e76_53, e76_56, e76_57, e76_59, e76_62, e76_65, e76_66, e76_67, e76_70, e76_71, e76_73, e76_76, e76_77, e76_78, e76_81, e76_82, e76_85, e76_86, e76_87, e76_88, e76_89, e76_90, e76_91, e76_92, e76_93, e76_94, e76_97, e76_99, e76_102, e76_103, e76_104, e76_107, e76_109, e76_112, e76_114, e76_117, e76_120, e76_123, e76_124, e76_126, e76_129, e76_132, e76_133, e76_134, e76_137, e76_140, e76_141, e76_142, e76_143, e76_146, m76, ↓reduceIte, qg_0, qg_1, qg_2, qg_3, qg_4, qg_5, qg_6, qg_7, qg_8, qg_9, qg_10, qg_11, qg_12, qg_13, not_true_eq_false, not_false_eq_true, Nat.reduceBEq, Bool.false_eq_true, ex1, ex3, ex4, exF, qfit_i, qfit_l, qfit_r, qfit_n, qfit_b0, qfit_b1, qcat_i, qcat_r, qcat_n, qcat_l, qroom_0, qroom_c, List.map_cons, List.map_nil, List.sum_cons, List.sum_nil, Nat.reduceAdd, Nat.reduceMul, Nat.reduceLT, Nat.reduceLeDiff, Nat.reduceEqDiff, Nat.reduceSub, decide_true, true_and, and_true, and_self, if_true, if_false, Option.toList_some, Option.toList_none, List.cons_append, List.nil_append, qsL, qlong, List.length_cons, List.length_nil, iN_L, exI, iN_add, iN_mul, iN_le, iN_lt, iN_eq, Nat.le_refl, qfN0, qfN1, uX_16, vX_16, uX_19, vX_19, uX_27, vX_27, uX_30, vX_30, uX_39, vX_39, uX_41, vX_41, uX_43, vX_43, uX_46, vX_46, uX_50, vX_50, uX_53, vX_53, gX_50_2, ma, r1, iN10, r']
  rw [if_neg z1] at r1 v1
  obtain ⟨g2, r2, c2, v2⟩ := pw 2 w_cross ⟨by decide, by decide⟩ rfl (by decide) (by decide) g1 c1 v1
  have sg2 := c2.sh
  by_cases z2 : wdE tx a = w_cross
  · rw [if_pos z2] at r2 v2
    refine shape 1 _ g2 c2 v2 (by decide) (by unfold pCl0; rw [ha, z2]; rfl) fun g' r' R => ?_
    simp (disch := first | assumption | omega) only [e76_0, e76_1, e76_4, e76_5, e76_6, e76_8, e76_11, e76_14, e76_15, e76_16, e76_19, e76_22, e76_23, e76_25, e76_28, e76_31, e76_32, e76_33, e76_36, e76_39, e76_40, e76_42, e76_45, e76_48, e76_49, e76_50, e76_53, e76_56, e76_57, e76_59, e76_62, e76_65, e76_66, e76_67, e76_70, e76_71, e76_73, e76_76, e76_77, e76_78, e76_81, e76_82, e76_85, e76_86, e76_87, e76_88, e76_89, e76_90, e76_91, e76_92, e76_93, e76_94, e76_97, e76_99, e76_102, e76_103, e76_104, e76_107, e76_109, e76_112, e76_114, e76_117, e76_120, e76_123, e76_124, e76_126, e76_129, e76_132, e76_133, e76_134, e76_137, e76_140, e76_141, e76_142, e76_143, e76_146, m76, ↓reduceIte, qg_0, qg_1, qg_2, qg_3, qg_4, qg_5, qg_6, qg_7, qg_8, qg_9, qg_10, qg_11, qg_12, qg_13, not_true_eq_false, not_false_eq_true, Nat.reduceBEq, Bool.false_eq_true, ex1, ex3, ex4, exF, qfit_i, qfit_l, qfit_r, qfit_n, qfit_b0, qfit_b1, qcat_i, qcat_r, qcat_n, qcat_l, qroom_0, qroom_c, List.map_cons, List.map_nil, List.sum_cons, List.sum_nil, Nat.reduceAdd, Nat.reduceMul, Nat.reduceLT, Nat.reduceLeDiff, Nat.reduceEqDiff, Nat.reduceSub, decide_true, true_and, and_true, and_self, if_true, if_false, Option.toList_some, Option.toList_none, List.cons_append, List.nil_append, qsL, qlong, List.length_cons, List.length_nil, iN_L, exI, iN_add, iN_mul, iN_le, iN_lt, iN_eq, Nat.le_refl, qfN0, qfN1, uX_16, vX_16, uX_19, vX_19, uX_27, vX_27, uX_30, vX_30, uX_39, vX_39, uX_41, vX_41, uX_43, vX_43, uX_46, vX_46, uX_50, vX_50, uX_53, vX_53, gX_50_2, ma, r1, r2, iN10, r']
  rw [if_neg z2] at r2 v2
  obtain ⟨g3, r3, c3, v3⟩ := pw 3 w_corner ⟨by decide, by decide⟩ rfl (by decide) (by decide) g2 c2 v2
  have sg3 := c3.sh
  by_cases z3 : wdE tx a = w_corner
  · rw [if_pos z3] at r3 v3
    refine shape 2 _ g3 c3 v3 (by decide) (by unfold pCl0; rw [ha, z3]; rfl) fun g' r' R => ?_
    simp (disch := first | assumption | omega) only [e76_0, e76_1, e76_4, e76_5, e76_6, e76_8, e76_11, e76_14, e76_15, e76_16, e76_19, e76_22, e76_23, e76_25, e76_28, e76_31, e76_32, e76_33, e76_36, e76_39, e76_40, e76_42, e76_45, e76_48, e76_49, e76_50, e76_53, e76_56, e76_57, e76_59, e76_62, e76_65, e76_66, e76_67, e76_70, e76_71, e76_73, e76_76, e76_77, e76_78, e76_81, e76_82, e76_85, e76_86, e76_87, e76_88, e76_89, e76_90, e76_91, e76_92, e76_93, e76_94, e76_97, e76_99, e76_102, e76_103, e76_104, e76_107, e76_109, e76_112, e76_114, e76_117, e76_120, e76_123, e76_124, e76_126, e76_129, e76_132, e76_133, e76_134, e76_137, e76_140, e76_141, e76_142, e76_143, e76_146, m76, ↓reduceIte, qg_0, qg_1, qg_2, qg_3, qg_4, qg_5, qg_6, qg_7, qg_8, qg_9, qg_10, qg_11, qg_12, qg_13, not_true_eq_false, not_false_eq_true, Nat.reduceBEq, Bool.false_eq_true, ex1, ex3, ex4, exF, qfit_i, qfit_l, qfit_r, qfit_n, qfit_b0, qfit_b1, qcat_i, qcat_r, qcat_n, qcat_l, qroom_0, qroom_c, List.map_cons, List.map_nil, List.sum_cons, List.sum_nil, Nat.reduceAdd, Nat.reduceMul, Nat.reduceLT, Nat.reduceLeDiff, Nat.reduceEqDiff, Nat.reduceSub, decide_true, true_and, and_true, and_self, if_true, if_false, Option.toList_some, Option.toList_none, List.cons_append, List.nil_append, qsL, qlong, List.length_cons, List.length_nil, iN_L, exI, iN_add, iN_mul, iN_le, iN_lt, iN_eq, Nat.le_refl, qfN0, qfN1, uX_16, vX_16, uX_19, vX_19, uX_27, vX_27, uX_30, vX_30, uX_39, vX_39, uX_41, vX_41, uX_43, vX_43, uX_46, vX_46, uX_50, vX_50, uX_53, vX_53, gX_50_2, ma, r1, r2, r3, iN10, r']
  rw [if_neg z3] at r3 v3
  obtain ⟨g4, r4, c4, v4⟩ := pw 4 w_round ⟨by decide, by decide⟩ rfl (by decide) (by decide) g3 c3 v3
  have sg4 := c4.sh
  by_cases z4 : wdE tx a = w_round
  · rw [if_pos z4] at r4 v4
    have s4 := c4.sh
    have t4 := t.ch c4 s (by intro z; cases z) (by decide)
    have m4 := (c4.xi (b := 50) (j := 5) (by decide) (by decide)).trans m
    obtain ⟨g5, n, r5, hn, c5, y5, a5, v5, f5, e5⟩ := x_parseShape (d := d) (k := 3) s4 t4 v4 (vf.ch c4 (by decide) (by decide)) m4 hc
    have s5 := c5.sh
    have t5 := t4.ch c5 s4 (by decide) (by decide)
    have m5 := (c5.xi (b := 50) (j := 5) (by decide) (by decide)).trans m4
    obtain ⟨g6, r6, c6, a6, v6, f6, e6⟩ := x_needWord (d := d + 1) (k := 5) (w := w_of) s5 t5 v5 f5 ⟨by decide, by decide⟩ rfl (by decide) (by decide)
    have s6 := c6.sh
    have t6 := t5.ch c6 s5 (by intro z; cases z) (by decide)
    have m6 := (c6.xi (b := 50) (j := 5) (by decide) (by decide)).trans m5
    have pt : ∀ R, qMC (d + 5) 73 [.ref 50, .int (iN c), .int (iN 1)] g6 R ↔ R = (some (.int (iN n)), g6) := fun R => by
      have := x_partC (d := d + 4) (R := R) (c := c) (j := 1) s6 (by omega)
      rw [row52 c6 s5, y5, if_neg (by omega), if_pos rfl] at this
      exact this
    have rm := rMost_b (n := n)
    obtain ⟨g7, M, r7, hM, c7, a7, v7, f7, e7⟩ := x_takeNumber (d := d + 1) (lo := n + 1) (hi' := rMost n) s6 t6 v6 f6 (by omega) (by omega)
    have s7 := c7.sh
    have m7 := (c7.xi (b := 50) (j := 5) (by decide) (by decide)).trans m6
    obtain ⟨g8, r8, c8, y8⟩ := x_putE (d := d + 4) (j := 2) (x := iN M) s7 m7 hc (by decide)
    have rows : ∀ i, hi g8 52 i = if i = c * 5 + 2 then iN M else if i = c * 5 + 2 then iN 0 else if i = c * 5 + 1 then iN n else if i = c * 5 then iN 3 else hi h 52 i := fun i => by
      rw [y8, row52 c7 s6, row52 c6 s5, y5, row52 c4 s]
    have e0 : pCl0 tx a cn = pB (pShp tx (a + w_round.length) 3) fun q => .inr (q.1, .inl (3, q.2.1, q.2.2)) := by unfold pCl0; rw [ha, z4]; rfl
    have e1 : pCl0 tx a cn = pB (pNum tx (a + w_round.length) 2 4) fun q => pB (pWrd tx q.1 w_of) fun q2 => pB (pNum tx q2 (q.2 + 1) (rMost q.2)) fun q3 => .inr (q3.1, .inl (3, q.2, q3.2)) := by
      rw [e0]
      unfold pShp
      rcases pNum tx (a + w_round.length) 2 4 with x | x
      · rfl
      · show (pB (if (3 : Nat) = 3 then pB (pWrd tx x.1 w_of) fun q2 => pB (pNum tx q2 (x.2 + 1) (rMost x.2)) fun q3 => .inr (q3.1, x.2, q3.2) else .inr (x.1, x.2, 0)) fun q => .inr (q.1, .inl (3, q.2.1, q.2.2)) : pFl ⊕ (Nat × cls4)) = pB (pWrd tx x.1 w_of) fun q2 => pB (pNum tx q2 (x.2 + 1) (rMost x.2)) fun q3 => .inr (q3.1, .inl (3, x.2, q3.2))
        rw [if_pos rfl]
        rcases pWrd tx x.1 w_of with y | y
        · rfl
        · show (pB (pB (pNum tx y (x.2 + 1) (rMost x.2)) fun q3 => .inr (q3.1, x.2, q3.2)) fun q => .inr (q.1, .inl (3, q.2.1, q.2.2)) : pFl ⊕ (Nat × cls4)) = pB (pNum tx y (x.2 + 1) (rMost x.2)) fun q3 => .inr (q3.1, .inl (3, x.2, q3.2))
          cases pNum tx y (x.2 + 1) (rMost x.2) <;> rfl
    have er : (erQ (pNum tx (a + w_round.length) 2 4)).or ((erQ (pWrd tx a5 w_of)).or (erQ (pNum tx a6 (n + 1) (rMost n)))) = erQ (pCl0 tx a cn) := by
      rw [e1]
      refine er_or fun q1 h1 => ?_
      rw [e5 q1 h1]
      refine er_or fun q2 h2 => ?_
      rw [e6 q2 h2]
      exact er_map.symm
    have f8 := f7.ch c8 (by intro z; cases z) (by intro z; cases z)
    rw [Option.or_assoc, Option.or_assoc, er] at f8
    have cc : ChX [52] [(50, 2), (50, 3), (50, 6), (50, 7)] 0 h g8 := (c4.mono (by intro _ z; cases z) (by decide) (Nat.le_refl _)).trans0 <| (c5.mono (fun _ z => z) (by decide) (Nat.le_refl _)).trans0 <| (c6.mono (by intro _ z; cases z) (by decide) (Nat.le_refl _)).trans0 <| (c7.mono (by intro _ z; cases z) (by decide) (Nat.le_refl _)).trans0 (c8.mono (fun _ z => z) (by intro _ z; cases z) (Nat.le_refl _))
    refine ⟨g8, fun R => ?_, cc, fun i hi' => ?_, a7, v7.ch c8 (by intro z; cases z), f8, fun r hr => ?_⟩
    · by_cases n2 : n = 2
      · subst n2
        rw [show rMost 2 = 16 from rfl] at r7
        simp (disch := first | assumption | omega) only [e76_0, e76_1, e76_4, e76_5, e76_6, e76_8, e76_11, e76_14, e76_15, e76_16, e76_19, e76_22, e76_23, e76_25, e76_28, e76_31, e76_32, e76_33, e76_36, e76_39, e76_40, e76_42, e76_45, e76_48, e76_49, e76_50, e76_53, e76_56, e76_57, e76_59, e76_62, e76_65, e76_66, e76_67, e76_70, e76_71, e76_73, e76_76, e76_77, e76_78, e76_81, e76_82, e76_85, e76_86, e76_87, e76_88, e76_89, e76_90, e76_91, e76_92, e76_93, e76_94, e76_97, e76_99, e76_102, e76_103, e76_104, e76_107, e76_109, e76_112, e76_114, e76_117, e76_120, e76_123, e76_124, e76_126, e76_129, e76_132, e76_133, e76_134, e76_137, e76_140, e76_141, e76_142, e76_143, e76_146, m76, ↓reduceIte, qg_0, qg_1, qg_2, qg_3, qg_4, qg_5, qg_6, qg_7, qg_8, qg_9, qg_10, qg_11, qg_12, qg_13, not_true_eq_false, not_false_eq_true, Nat.reduceBEq, Bool.false_eq_true, ex1, ex3, ex4, exF, qfit_i, qfit_l, qfit_r, qfit_n, qfit_b0, qfit_b1, qcat_i, qcat_r, qcat_n, qcat_l, qroom_0, qroom_c, List.map_cons, List.map_nil, List.sum_cons, List.sum_nil, Nat.reduceAdd, Nat.reduceMul, Nat.reduceLT, Nat.reduceLeDiff, Nat.reduceEqDiff, Nat.reduceSub, decide_true, true_and, and_true, and_self, if_true, if_false, Option.toList_some, Option.toList_none, List.cons_append, List.nil_append, qsL, qlong, List.length_cons, List.length_nil, iN_L, exI, iN_add, iN_mul, iN_le, iN_lt, iN_eq, Nat.le_refl, qfN0, qfN1, uX_16, vX_16, uX_19, vX_19, uX_27, vX_27, uX_30, vX_30, uX_39, vX_39, uX_41, vX_41, uX_43, vX_43, uX_46, vX_46, uX_50, vX_50, uX_53, vX_53, gX_50_2, ma, r1, r2, r3, r4, iN10, r5, r6, gX_50_5, m6, pt, r7, r8]
      · by_cases n3 : n = 3
        · subst n3
          rw [show rMost 3 = 10 from rfl] at r7
          simp (disch := first | assumption | omega) only [e76_0, e76_1, e76_4, e76_5, e76_6, e76_8, e76_11, e76_14, e76_15, e76_16, e76_19, e76_22, e76_23, e76_25, e76_28, e76_31, e76_32, e76_33, e76_36, e76_39, e76_40, e76_42, e76_45, e76_48, e76_49, e76_50, e76_53, e76_56, e76_57, e76_59, e76_62, e76_65, e76_66, e76_67, e76_70, e76_71, e76_73, e76_76, e76_77, e76_78, e76_81, e76_82, e76_85, e76_86, e76_87, e76_88, e76_89, e76_90, e76_91, e76_92, e76_93, e76_94, e76_97, e76_99, e76_102, e76_103, e76_104, e76_107, e76_109, e76_112, e76_114, e76_117, e76_120, e76_123, e76_124, e76_126, e76_129, e76_132, e76_133, e76_134, e76_137, e76_140, e76_141, e76_142, e76_143, e76_146, m76, ↓reduceIte, qg_0, qg_1, qg_2, qg_3, qg_4, qg_5, qg_6, qg_7, qg_8, qg_9, qg_10, qg_11, qg_12, qg_13, not_true_eq_false, not_false_eq_true, Nat.reduceBEq, Bool.false_eq_true, ex1, ex3, ex4, exF, qfit_i, qfit_l, qfit_r, qfit_n, qfit_b0, qfit_b1, qcat_i, qcat_r, qcat_n, qcat_l, qroom_0, qroom_c, List.map_cons, List.map_nil, List.sum_cons, List.sum_nil, Nat.reduceAdd, Nat.reduceMul, Nat.reduceLT, Nat.reduceLeDiff, Nat.reduceEqDiff, Nat.reduceSub, decide_true, true_and, and_true, and_self, if_true, if_false, Option.toList_some, Option.toList_none, List.cons_append, List.nil_append, qsL, qlong, List.length_cons, List.length_nil, iN_L, exI, iN_add, iN_mul, iN_le, iN_lt, iN_eq, Nat.le_refl, qfN0, qfN1, uX_16, vX_16, uX_19, vX_19, uX_27, vX_27, uX_30, vX_30, uX_39, vX_39, uX_41, vX_41, uX_43, vX_43, uX_46, vX_46, uX_50, vX_50, uX_53, vX_53, gX_50_2, ma, r1, r2, r3, r4, iN10, r5, r6, gX_50_5, m6, pt, r7, r8]
        · rw [show rMost n = 6 by unfold rMost; rw [if_neg n2, if_neg n3]] at r7
          simp (disch := first | assumption | omega) only [e76_0, e76_1, e76_4, e76_5, e76_6, e76_8, e76_11, e76_14, e76_15, e76_16, e76_19, e76_22, e76_23, e76_25, e76_28, e76_31, e76_32, e76_33, e76_36, e76_39, e76_40, e76_42, e76_45, e76_48, e76_49, e76_50, e76_53, e76_56, e76_57, e76_59, e76_62, e76_65, e76_66, e76_67, e76_70, e76_71, e76_73, e76_76, e76_77, e76_78, e76_81, e76_82, e76_85, e76_86, e76_87, e76_88, e76_89, e76_90, e76_91, e76_92, e76_93, e76_94, e76_97, e76_99, e76_102, e76_103, e76_104, e76_107, e76_109, e76_112, e76_114, e76_117, e76_120, e76_123, e76_124, e76_126, e76_129, e76_132, e76_133, e76_134, e76_137, e76_140, e76_141, e76_142, e76_143, e76_146, m76, ↓reduceIte, qg_0, qg_1, qg_2, qg_3, qg_4, qg_5, qg_6, qg_7, qg_8, qg_9, qg_10, qg_11, qg_12, qg_13, not_true_eq_false, not_false_eq_true, Nat.reduceBEq, Bool.false_eq_true, ex1, ex3, ex4, exF, qfit_i, qfit_l, qfit_r, qfit_n, qfit_b0, qfit_b1, qcat_i, qcat_r, qcat_n, qcat_l, qroom_0, qroom_c, List.map_cons, List.map_nil, List.sum_cons, List.sum_nil, Nat.reduceAdd, Nat.reduceMul, Nat.reduceLT, Nat.reduceLeDiff, Nat.reduceEqDiff, Nat.reduceSub, decide_true, true_and, and_true, and_self, if_true, if_false, Option.toList_some, Option.toList_none, List.cons_append, List.nil_append, qsL, qlong, List.length_cons, List.length_nil, iN_L, exI, iN_add, iN_mul, iN_le, iN_lt, iN_eq, Nat.le_refl, qfN0, qfN1, uX_16, vX_16, uX_19, vX_19, uX_27, vX_27, uX_30, vX_30, uX_39, vX_39, uX_41, vX_41, uX_43, vX_43, uX_46, vX_46, uX_50, vX_50, uX_53, vX_53, gX_50_2, ma, r1, r2, r3, r4, iN10, r5, r6, gX_50_5, m6, pt, n2, n3, r7, r8]
    · rw [rows, if_neg (by omega), if_neg (by omega), if_neg (by omega), if_neg (by omega)]
    · rw [e1] at hr
      obtain ⟨q1, h1, hr⟩ := pB_ok hr
      rw [e5 q1 h1] at hr
      obtain ⟨q2, h2, hr⟩ := pB_ok hr
      rw [e6 q2 h2] at hr
      obtain ⟨q3, h3, hr⟩ := pB_ok hr
      have i7 := e7 q3 h3
      injection hr with hr
      rw [← hr, i7]
      refine ⟨rfl, ⟨?_, ?_, ?_⟩, ?_⟩
      · rw [rows, if_neg (by omega), if_neg (by omega), if_neg (by omega), if_pos rfl]
      · rw [rows, if_neg (by omega), if_neg (by omega), if_pos rfl]
      · rw [rows, if_pos rfl]
      · exact (c8.xi (by decide) (by intro z; cases z)).trans ((c7.xi (by decide) (by decide)).trans ((c6.xi (by decide) (by decide)).trans ((c5.xi (by decide) (by decide)).trans ((c4.xi (by decide) (by decide)).trans m3))))
  rw [if_neg z4] at r4 v4
  obtain ⟨g5, r5, c5, v5⟩ := pw 6 w_claim ⟨by decide, by decide⟩ rfl (by decide) (by decide) g4 c4 v4
  have sg5 := c5.sh
  by_cases z5 : wdE tx a = w_claim
  · rw [if_pos z5] at r5 v5
    obtain ⟨g6, r6, c6, y6, n6, a6, v6, f6, e6⟩ := x_parseClaim (d := d) (st := a) c5.sh (t.ch c5 s (by intro z; cases z) (by decide)) v5 (vf.ch c5 (by decide) (by decide)) ((c5.xi (by decide) (by decide)).trans m) hc ((c5.xi (by decide) (by decide)).trans m3) h8
    have e0 : pCl0 tx a cn = if cn = 8 then .inl (3, a) else pB (pClm tx (a + 5)) fun q => .inr (q.1, .inr q.2) := by unfold pCl0; rw [ha, z5]; rfl
    have eq : erQ (pCl0 tx a cn) = erQ (clmQ tx (a + w_claim.length) cn a) ∧ ∀ r, pCl0 tx a cn = .inr r → ∃ q, clmQ tx (a + w_claim.length) cn a = .inr q ∧ r = (q.1, .inr q.2) := by
      rw [e0]
      unfold clmQ
      by_cases z8 : cn = 8
      · rw [if_pos z8, if_pos z8]
        exact ⟨rfl, fun r hr => by cases hr⟩
      · rw [if_neg z8, if_neg z8]
        refine ⟨er_map, fun r hr => ?_⟩
        obtain ⟨q, h1, h2⟩ := pB_ok hr
        injection h2 with h2
        exact ⟨q, h1, h2.symm⟩
    refine ⟨g6, fun R => ?_, (c5.mono (by intro _ z; cases z) (by decide) (Nat.le_refl _)).trans0 c6, fun i hi' => by rw [y6 i hi', row52 c5 s], a6, v6, by rw [eq.1]; exact f6, fun r hr => ?_⟩
    · simp (disch := first | assumption | omega) only [e76_0, e76_1, e76_4, e76_5, e76_6, e76_8, e76_11, e76_14, e76_15, e76_16, e76_19, e76_22, e76_23, e76_25, e76_28, e76_31, e76_32, e76_33, e76_36, e76_39, e76_40, e76_42, e76_45, e76_48, e76_49, e76_50, e76_53, e76_56, e76_57, e76_59, e76_62, e76_65, e76_66, e76_67, e76_70, e76_71, e76_73, e76_76, e76_77, e76_78, e76_81, e76_82, e76_85, e76_86, e76_87, e76_88, e76_89, e76_90, e76_91, e76_92, e76_93, e76_94, e76_97, e76_99, e76_102, e76_103, e76_104, e76_107, e76_109, e76_112, e76_114, e76_117, e76_120, e76_123, e76_124, e76_126, e76_129, e76_132, e76_133, e76_134, e76_137, e76_140, e76_141, e76_142, e76_143, e76_146, m76, ↓reduceIte, qg_0, qg_1, qg_2, qg_3, qg_4, qg_5, qg_6, qg_7, qg_8, qg_9, qg_10, qg_11, qg_12, qg_13, not_true_eq_false, not_false_eq_true, Nat.reduceBEq, Bool.false_eq_true, ex1, ex3, ex4, exF, qfit_i, qfit_l, qfit_r, qfit_n, qfit_b0, qfit_b1, qcat_i, qcat_r, qcat_n, qcat_l, qroom_0, qroom_c, List.map_cons, List.map_nil, List.sum_cons, List.sum_nil, Nat.reduceAdd, Nat.reduceMul, Nat.reduceLT, Nat.reduceLeDiff, Nat.reduceEqDiff, Nat.reduceSub, decide_true, true_and, and_true, and_self, if_true, if_false, Option.toList_some, Option.toList_none, List.cons_append, List.nil_append, qsL, qlong, List.length_cons, List.length_nil, iN_L, exI, iN_add, iN_mul, iN_le, iN_lt, iN_eq, Nat.le_refl, qfN0, qfN1, uX_16, vX_16, uX_19, vX_19, uX_27, vX_27, uX_30, vX_30, uX_39, vX_39, uX_41, vX_41, uX_43, vX_43, uX_46, vX_46, uX_50, vX_50, uX_53, vX_53, gX_50_2, ma, r1, r2, r3, r4, r5, iN10, r6]
    · obtain ⟨q, h1, h2⟩ := eq.2 r hr
      obtain ⟨i1, i2, i3⟩ := e6 q h1
      rw [h2]
      exact ⟨i1, ⟨i2, i3⟩, n6⟩
  rw [if_neg z5] at r5 v5
  have e0 : pCl0 tx a cn = .inl (1, a) := by
    unfold pCl0
    rw [ha, show keyW (wdE tx a) = none by unfold keyW; rw [if_neg z1, if_neg z2, if_neg z3, if_neg z4, if_neg z5]]
  obtain ⟨g6, r6, c6, f6⟩ := x_fail (d := d + 4) (k := 1) (p := a) c5.sh (vf.ch c5 (by decide) (by decide)) ⟨by decide, by decide⟩
  refine ⟨g6, fun R => ?_, (c5.mono (by intro _ z; cases z) (by decide) (Nat.le_refl _)).trans0 (c6.mono (by intro _ z; cases z) (by decide) (Nat.le_refl _)), fun i _ => by rw [row52 c6 c5.sh, row52 c5 s], a, v5.ch c6 (by decide), by rw [e0]; exact f6, fun r hr => by rw [e0] at hr; cases hr⟩
  simp (disch := first | assumption | omega) only [e76_0, e76_1, e76_4, e76_5, e76_6, e76_8, e76_11, e76_14, e76_15, e76_16, e76_19, e76_22, e76_23, e76_25, e76_28, e76_31, e76_32, e76_33, e76_36, e76_39, e76_40, e76_42, e76_45, e76_48, e76_49, e76_50, e76_53, e76_56, e76_57, e76_59, e76_62, e76_65, e76_66, e76_67, e76_70, e76_71, e76_73, e76_76, e76_77, e76_78, e76_81, e76_82, e76_85, e76_86, e76_87, e76_88, e76_89, e76_90, e76_91, e76_92, e76_93, e76_94, e76_97, e76_99, e76_102, e76_103, e76_104, e76_107, e76_109, e76_112, e76_114, e76_117, e76_120, e76_123, e76_124, e76_126, e76_129, e76_132, e76_133, e76_134, e76_137, e76_140, e76_141, e76_142, e76_143, e76_146, m76, ↓reduceIte, qg_0, qg_1, qg_2, qg_3, qg_4, qg_5, qg_6, qg_7, qg_8, qg_9, qg_10, qg_11, qg_12, qg_13, not_true_eq_false, not_false_eq_true, Nat.reduceBEq, Bool.false_eq_true, ex1, ex3, ex4, exF, qfit_i, qfit_l, qfit_r, qfit_n, qfit_b0, qfit_b1, qcat_i, qcat_r, qcat_n, qcat_l, qroom_0, qroom_c, List.map_cons, List.map_nil, List.sum_cons, List.sum_nil, Nat.reduceAdd, Nat.reduceMul, Nat.reduceLT, Nat.reduceLeDiff, Nat.reduceEqDiff, Nat.reduceSub, decide_true, true_and, and_true, and_self, if_true, if_false, Option.toList_some, Option.toList_none, List.cons_append, List.nil_append, qsL, qlong, List.length_cons, List.length_nil, iN_L, exI, iN_add, iN_mul, iN_le, iN_lt, iN_eq, Nat.le_refl, qfN0, qfN1, uX_16, vX_16, uX_19, vX_19, uX_27, vX_27, uX_30, vX_30, uX_39, vX_39, uX_41, vX_41, uX_43, vX_43, uX_46, vX_46, uX_50, vX_50, uX_53, vX_53, gX_50_2, ma, r1, r2, r3, r4, r5, r6]
end XPCLAUSE

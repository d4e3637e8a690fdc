/-! ===== THE CLASS: the text, what must stand ===== -/
section XNUMBER
variable {d : Nat} {h : qH} {R : qRes} {tx : List Nat} {f : Option pFl}
set_option maxRecDepth 100000 in
theorem x_needWord {a k : Nat} {w : List Nat} (s : ShX h) (t : TxX h tx) (v : AtX h tx a) (vf : FtX h f) (hk : 1 ≤ k ∧ k ≤ 8) (hl : qsln k = w.length) (h8 : w.length ≤ 8) (hw : ∀ j, j < w.length → qsch k j = iN (w.getD j 0) ∧ w.getD j 0 < 256) : ∃ h', (∀ R, qMC (d + 4) 83 [.ref 50, .ref k] h R ↔ R = (none, h')) ∧ ChX [] [(50, 2), (50, 6), (50, 7)] 0 h h' ∧ ∃ a', AtX h' tx a' ∧ FtX h' (f.or (erQ (pWrd tx a w))) ∧ ∀ r, pWrd tx a w = .inr r → r = a' := by
  obtain ⟨h1, r1, c1, v1⟩ := x_passWord (d := d) s t v hk hl h8 hw
  have s1 := c1.sh
  have f1 := vf.ch c1 (by decide) (by decide)
  have c1' : ChX [] [(50, 2), (50, 6), (50, 7)] 0 h h1 := c1.mono (by intro _ z; cases z) (by decide) (Nat.le_refl _)
  by_cases z : wdE tx (skp tx a) = w
  · rw [if_pos z] at v1
    rw [if_pos z] at r1
    have e : pWrd tx a w = .inr (skp tx a + w.length) := by unfold pWrd; rw [if_pos z]
    refine ⟨h1, fun R => ?_, c1', _, v1, by rw [e]; cases f <;> exact f1, fun r hr => by rw [e] at hr; injection hr with hr; exact hr.symm⟩
    simp (disch := first | assumption | omega) only [e83_0, e83_1, e83_2, e83_5, e83_8, e83_9, e83_10, e83_11, e83_14, e83_17, m83, ↓reduceIte, qg_0, qg_1, qg_2, qg_3, qg_4, qg_5, qg_6, qg_7, qg_8, qg_9, qg_10, qg_11, qg_12, qg_13, not_true_eq_false, not_false_eq_true, Nat.reduceBEq, Bool.false_eq_true, ex1, ex3, ex4, exF, qfit_i, qfit_l, qfit_r, qfit_n, qfit_b0, qfit_b1, qcat_i, qcat_r, qcat_n, qcat_l, qroom_0, qroom_c, List.map_cons, List.map_nil, List.sum_cons, List.sum_nil, Nat.reduceAdd, Nat.reduceMul, Nat.reduceLT, Nat.reduceLeDiff, Nat.reduceEqDiff, Nat.reduceSub, decide_true, true_and, and_true, and_self, if_true, if_false, Option.toList_some, Option.toList_none, List.cons_append, List.nil_append, qsL, qlong, List.length_cons, List.length_nil, iN_L, exI, iN_add, iN_mul, iN_le, iN_lt, iN_eq, Nat.le_refl, qfN0, qfN1, uX_16, vX_16, uX_19, vX_19, uX_27, vX_27, uX_30, vX_30, uX_39, vX_39, uX_41, vX_41, uX_43, vX_43, uX_46, vX_46, uX_50, vX_50, uX_53, vX_53, r1, iN10]
  · rw [if_neg z] at v1
    rw [if_neg z] at r1
    have e : pWrd tx a w = .inl (1, skp tx a) := by unfold pWrd; rw [if_neg z]
    obtain ⟨h2, r2, c2, f2⟩ := x_fail (d := d + 2) (k := 1) (p := skp tx a) s1 f1 ⟨by decide, by decide⟩
    refine ⟨h2, fun R => ?_, c1'.trans0 (c2.mono (by intro _ z; cases z) (by decide) (Nat.le_refl _)), _, v1.ch c2 (by decide), by rw [e]; exact f2, fun r hr => by rw [e] at hr; cases hr⟩
    have m := v1.2
    simp (disch := first | assumption | omega) only [e83_0, e83_1, e83_2, e83_5, e83_8, e83_9, e83_10, e83_11, e83_14, e83_17, m83, ↓reduceIte, qg_0, qg_1, qg_2, qg_3, qg_4, qg_5, qg_6, qg_7, qg_8, qg_9, qg_10, qg_11, qg_12, qg_13, not_true_eq_false, not_false_eq_true, Nat.reduceBEq, Bool.false_eq_true, ex1, ex3, ex4, exF, qfit_i, qfit_l, qfit_r, qfit_n, qfit_b0, qfit_b1, qcat_i, qcat_r, qcat_n, qcat_l, qroom_0, qroom_c, List.map_cons, List.map_nil, List.sum_cons, List.sum_nil, Nat.reduceAdd, Nat.reduceMul, Nat.reduceLT, Nat.reduceLeDiff, Nat.reduceEqDiff, Nat.reduceSub, decide_true, true_and, and_true, and_self, if_true, if_false, Option.toList_some, Option.toList_none, List.cons_append, List.nil_append, qsL, qlong, List.length_cons, List.length_nil, iN_L, exI, iN_add, iN_mul, iN_le, iN_lt, iN_eq, Nat.le_refl, qfN0, qfN1, uX_16, vX_16, uX_19, vX_19, uX_27, vX_27, uX_30, vX_30, uX_39, vX_39, uX_41, vX_41, uX_43, vX_43, uX_46, vX_46, uX_50, vX_50, uX_53, vX_53, r1, gX_50_2, m, r2]
set_option maxRecDepth 100000 in
set_option maxHeartbeats 16000000 in
theorem x_needSemi {a : Nat} (s : ShX h) (t : TxX h tx) (v : AtX h tx a) (vf : FtX h f) : ∃ h', (∀ R, qMC (d + 4) 84 [.ref 50, .int (iN 59)] h R ↔ R = (none, h')) ∧ ChX [] [(50, 2), (50, 6), (50, 7)] 0 h h' ∧ ∃ a', AtX h' tx a' ∧ FtX h' (f.or (erQ (pChr tx a isSc))) ∧ ∀ r, pChr tx a isSc = .inr r → r.1 = a' := by
  obtain ⟨h1, r1, c1, v1⟩ := x_skips (d := d + 1) s t v
  have s1 := c1.sh
  have t1 := t.ch c1 s (by intro z; cases z) (by decide)
  have f1 := vf.ch c1 (by decide) (by decide)
  have c1' : ChX [] [(50, 2), (50, 6), (50, 7)] 0 h h1 := c1.mono (by intro _ z; cases z) (by decide) (Nat.le_refl _)
  have m := v1.2
  have l1 := v1.1
  have l160 := t.1
  have bad : ∀ x : Int32, (∀ R, qMC (d + 3) 80 [.ref 50] h1 R ↔ R = (some (.int x), h1)) → ¬ x = iN 59 → pChr tx a isSc = .inl (1, skp tx a) → ∃ h', (∀ R, qMC (d + 4) 84 [.ref 50, .int (iN 59)] h R ↔ R = (none, h')) ∧ ChX [] [(50, 2), (50, 6), (50, 7)] 0 h h' ∧ ∃ a', AtX h' tx a' ∧ FtX h' (f.or (erQ (pChr tx a isSc))) ∧ ∀ r, pChr tx a isSc = .inr r → r.1 = a' := fun x he hx e => by
    obtain ⟨h2, r2, c2, f2⟩ := x_fail (d := d + 2) (k := 1) (p := skp tx a) s1 f1 ⟨by decide, by decide⟩
    refine ⟨h2, fun R => ?_, c1'.trans0 (c2.mono (by intro _ z; cases z) (by decide) (Nat.le_refl _)), _, v1.ch c2 (by decide), by rw [e]; exact f2, fun r hr => by rw [e] at hr; cases hr⟩
    simp (disch := first | assumption | omega) only [e84_0, e84_1, e84_4, e84_5, e84_8, e84_9, e84_12, e84_13, e84_14, e84_17, e84_18, e84_19, e84_22, e84_25, e84_26, e84_27, e84_28, e84_31, e84_34, m84, ↓reduceIte, qg_0, qg_1, qg_2, qg_3, qg_4, qg_5, qg_6, qg_7, qg_8, qg_9, qg_10, qg_11, qg_12, qg_13, not_true_eq_false, not_false_eq_true, Nat.reduceBEq, Bool.false_eq_true, ex1, ex3, ex4, exF, qfit_i, qfit_l, qfit_r, qfit_n, qfit_b0, qfit_b1, qcat_i, qcat_r, qcat_n, qcat_l, qroom_0, qroom_c, List.map_cons, List.map_nil, List.sum_cons, List.sum_nil, Nat.reduceAdd, Nat.reduceMul, Nat.reduceLT, Nat.reduceLeDiff, Nat.reduceEqDiff, Nat.reduceSub, decide_true, true_and, and_true, and_self, if_true, if_false, Option.toList_some, Option.toList_none, List.cons_append, List.nil_append, qsL, qlong, List.length_cons, List.length_nil, iN_L, exI, iN_add, iN_mul, iN_le, iN_lt, iN_eq, Nat.le_refl, qfN0, qfN1, uX_16, vX_16, uX_19, vX_19, uX_27, vX_27, uX_30, vX_30, uX_39, vX_39, uX_41, vX_41, uX_43, vX_43, uX_46, vX_46, uX_50, vX_50, uX_53, vX_53, r1, gX_50_2, m, he, hx, r2]
  by_cases hb : skp tx a < tx.length
  · have he : ∀ R, qMC (d + 3) 80 [.ref 50] h1 R ↔ R = (some (.int (iN (tx.getD (skp tx a) 0))), h1) := fun R => x_here1 s1 t1 m hb
    have lt := (t1.2.2 _ hb).2
    by_cases q : tx.getD (skp tx a) 0 = 59
    · have e : pChr tx a isSc = .inr (skp tx a + 1, tx.getD (skp tx a) 0) := by unfold pChr; rw [if_pos ⟨hb, by rw [q]; rfl⟩]
      obtain ⟨h2, e2⟩ : ∃ h2, h2 = xV h1 50 2 (.int (iN (skp tx a + 1))) := ⟨_, rfl⟩
      have p2 : qput h1 50 6 2 (.int (iN (skp tx a + 1))) = some h2 := by rw [e2]; exact pX_50_2 s1
      have c2 : ChX [] [(50, 2)] 0 h1 h2 := by rw [e2]; exact ChX.setI s1 (by decide) (by decide)
      refine ⟨h2, fun R => ?_, c1'.trans0 (c2.mono (by intro _ z; cases z) (by decide) (Nat.le_refl _)), skp tx a + 1, ⟨by omega, by rw [e2, xi_xV, if_pos ⟨rfl, rfl⟩]⟩, by rw [e]; have := f1.ch c2 (by decide) (by decide); cases f <;> exact this, fun r hr => by rw [e] at hr; injection hr with hr; rw [← hr]⟩
      rw [q] at he
      simp (disch := first | assumption | omega) only [e84_0, e84_1, e84_4, e84_5, e84_8, e84_9, e84_12, e84_13, e84_14, e84_17, e84_18, e84_19, e84_22, e84_25, e84_26, e84_27, e84_28, e84_31, e84_34, m84, ↓reduceIte, qg_0, qg_1, qg_2, qg_3, qg_4, qg_5, qg_6, qg_7, qg_8, qg_9, qg_10, qg_11, qg_12, qg_13, not_true_eq_false, not_false_eq_true, Nat.reduceBEq, Bool.false_eq_true, ex1, ex3, ex4, exF, qfit_i, qfit_l, qfit_r, qfit_n, qfit_b0, qfit_b1, qcat_i, qcat_r, qcat_n, qcat_l, qroom_0, qroom_c, List.map_cons, List.map_nil, List.sum_cons, List.sum_nil, Nat.reduceAdd, Nat.reduceMul, Nat.reduceLT, Nat.reduceLeDiff, Nat.reduceEqDiff, Nat.reduceSub, decide_true, true_and, and_true, and_self, if_true, if_false, Option.toList_some, Option.toList_none, List.cons_append, List.nil_append, qsL, qlong, List.length_cons, List.length_nil, iN_L, exI, iN_add, iN_mul, iN_le, iN_lt, iN_eq, Nat.le_refl, qfN0, qfN1, uX_16, vX_16, uX_19, vX_19, uX_27, vX_27, uX_30, vX_30, uX_39, vX_39, uX_41, vX_41, uX_43, vX_43, uX_46, vX_46, uX_50, vX_50, uX_53, vX_53, r1, gX_50_2, m, he, p2]
    · exact bad _ he (by rw [iN_eq (by omega) (by omega)]; exact q) (by unfold pChr; rw [if_neg fun z => q (by have := z.2; unfold isSc at this; exact beq_iff_eq.mp this)])
  · exact bad _ (fun R => x_here0 s1 t1 m (by omega) (by omega)) (by decide) (by unfold pChr; rw [if_neg fun z => hb z.1])
set_option maxRecDepth 100000 in
set_option maxHeartbeats 16000000 in
theorem x_takeCompare {a : Nat} (s : ShX h) (t : TxX h tx) (v : AtX h tx a) (vf : FtX h f) : ∃ (h' : qH) (x : Int32), (∀ R, qMC (d + 4) 85 [.ref 50] h R ↔ R = (some (.int x), h')) ∧ ChX [] [(50, 2), (50, 6), (50, 7)] 0 h h' ∧ ∃ a', AtX h' tx a' ∧ FtX h' (f.or (erQ (pChr tx a isSg))) ∧ ∀ r, pChr tx a isSg = .inr r → r.1 = a' ∧ x = iN r.2 := by
  obtain ⟨h1, r1, c1, v1⟩ := x_skips (d := d + 1) s t v
  have s1 := c1.sh
  have t1 := t.ch c1 s (by intro z; cases z) (by decide)
  have f1 := vf.ch c1 (by decide) (by decide)
  have c1' : ChX [] [(50, 2), (50, 6), (50, 7)] 0 h h1 := c1.mono (by intro _ z; cases z) (by decide) (Nat.le_refl _)
  have m := v1.2
  have l1 := v1.1
  have l160 := t.1
  have bad : ∀ x : Int32, (∀ R, qMC (d + 3) 80 [.ref 50] h1 R ↔ R = (some (.int x), h1)) → ¬ x = iN 60 → ¬ x = iN 62 → ¬ x = iN 61 → pChr tx a isSg = .inl (1, skp tx a) → ∃ (h' : qH) (x : Int32), (∀ R, qMC (d + 4) 85 [.ref 50] h R ↔ R = (some (.int x), h')) ∧ ChX [] [(50, 2), (50, 6), (50, 7)] 0 h h' ∧ ∃ a', AtX h' tx a' ∧ FtX h' (f.or (erQ (pChr tx a isSg))) ∧ ∀ r, pChr tx a isSg = .inr r → r.1 = a' ∧ x = iN r.2 := fun x he hx hy hz e => by
    obtain ⟨h2, r2, c2, f2⟩ := x_fail (d := d + 2) (k := 1) (p := skp tx a) s1 f1 ⟨by decide, by decide⟩
    refine ⟨h2, x, fun R => ?_, c1'.trans0 (c2.mono (by intro _ z; cases z) (by decide) (Nat.le_refl _)), _, v1.ch c2 (by decide), by rw [e]; exact f2, fun r hr => by rw [e] at hr; cases hr⟩
    simp (disch := first | assumption | omega) only [e85_0, e85_1, e85_4, e85_5, e85_8, e85_9, e85_10, e85_12, e85_15, e85_16, e85_18, e85_21, e85_22, e85_24, e85_27, e85_28, e85_29, e85_32, e85_33, e85_34, e85_37, e85_40, e85_41, e85_42, e85_43, e85_46, e85_49, e85_50, m85, ↓reduceIte, qg_0, qg_1, qg_2, qg_3, qg_4, qg_5, qg_6, qg_7, qg_8, qg_9, qg_10, qg_11, qg_12, qg_13, not_true_eq_false, not_false_eq_true, Nat.reduceBEq, Bool.false_eq_true, ex1, ex3, ex4, exF, qfit_i, qfit_l, qfit_r, qfit_n, qfit_b0, qfit_b1, qcat_i, qcat_r, qcat_n, qcat_l, qroom_0, qroom_c, List.map_cons, List.map_nil, List.sum_cons, List.sum_nil, Nat.reduceAdd, Nat.reduceMul, Nat.reduceLT, Nat.reduceLeDiff, Nat.reduceEqDiff, Nat.reduceSub, decide_true, true_and, and_true, and_self, if_true, if_false, Option.toList_some, Option.toList_none, List.cons_append, List.nil_append, qsL, qlong, List.length_cons, List.length_nil, iN_L, exI, iN_add, iN_mul, iN_le, iN_lt, iN_eq, Nat.le_refl, qfN0, qfN1, uX_16, vX_16, uX_19, vX_19, uX_27, vX_27, uX_30, vX_30, uX_39, vX_39, uX_41, vX_41, uX_43, vX_43, uX_46, vX_46, uX_50, vX_50, uX_53, vX_53, r1, gX_50_2, m, he, hx, hy, hz, r2]
  by_cases hb : skp tx a < tx.length
  · have he : ∀ R, qMC (d + 3) 80 [.ref 50] h1 R ↔ R = (some (.int (iN (tx.getD (skp tx a) 0))), h1) := fun R => x_here1 s1 t1 m hb
    have lt := (t1.2.2 _ hb).2
    by_cases q : isSg (tx.getD (skp tx a) 0) = true
    · have e : pChr tx a isSg = .inr (skp tx a + 1, tx.getD (skp tx a) 0) := by unfold pChr; rw [if_pos ⟨hb, q⟩]
      obtain ⟨h2, e2⟩ : ∃ h2, h2 = xV h1 50 2 (.int (iN (skp tx a + 1))) := ⟨_, rfl⟩
      have p2 : qput h1 50 6 2 (.int (iN (skp tx a + 1))) = some h2 := by rw [e2]; exact pX_50_2 s1
      have c2 : ChX [] [(50, 2)] 0 h1 h2 := by rw [e2]; exact ChX.setI s1 (by decide) (by decide)
      refine ⟨h2, iN (tx.getD (skp tx a) 0), fun R => ?_, c1'.trans0 (c2.mono (by intro _ z; cases z) (by decide) (Nat.le_refl _)), skp tx a + 1, ⟨by omega, by rw [e2, xi_xV, if_pos ⟨rfl, rfl⟩]⟩, by rw [e]; have := f1.ch c2 (by decide) (by decide); cases f <;> exact this, fun r hr => by rw [e] at hr; injection hr with hr; rw [← hr]; exact ⟨rfl, rfl⟩⟩
      generalize tx.getD (skp tx a) 0 = c at *
      unfold isSg at q
      rw [Bool.or_eq_true, Bool.or_eq_true, beq_iff_eq, beq_iff_eq, beq_iff_eq] at q
      rcases q with (rfl | rfl) | rfl
      · simp (disch := first | assumption | omega) only [e85_0, e85_1, e85_4, e85_5, e85_8, e85_9, e85_10, e85_12, e85_15, e85_16, e85_18, e85_21, e85_22, e85_24, e85_27, e85_28, e85_29, e85_32, e85_33, e85_34, e85_37, e85_40, e85_41, e85_42, e85_43, e85_46, e85_49, e85_50, m85, ↓reduceIte, qg_0, qg_1, qg_2, qg_3, qg_4, qg_5, qg_6, qg_7, qg_8, qg_9, qg_10, qg_11, qg_12, qg_13, not_true_eq_false, not_false_eq_true, Nat.reduceBEq, Bool.false_eq_true, ex1, ex3, ex4, exF, qfit_i, qfit_l, qfit_r, qfit_n, qfit_b0, qfit_b1, qcat_i, qcat_r, qcat_n, qcat_l, qroom_0, qroom_c, List.map_cons, List.map_nil, List.sum_cons, List.sum_nil, Nat.reduceAdd, Nat.reduceMul, Nat.reduceLT, Nat.reduceLeDiff, Nat.reduceEqDiff, Nat.reduceSub, decide_true, true_and, and_true, and_self, if_true, if_false, Option.toList_some, Option.toList_none, List.cons_append, List.nil_append, qsL, qlong, List.length_cons, List.length_nil, iN_L, exI, iN_add, iN_mul, iN_le, iN_lt, iN_eq, Nat.le_refl, qfN0, qfN1, uX_16, vX_16, uX_19, vX_19, uX_27, vX_27, uX_30, vX_30, uX_39, vX_39, uX_41, vX_41, uX_43, vX_43, uX_46, vX_46, uX_50, vX_50, uX_53, vX_53, r1, gX_50_2, m, he, p2]
      · simp (disch := first | assumption | omega) only [e85_0, e85_1, e85_4, e85_5, e85_8, e85_9, e85_10, e85_12, e85_15, e85_16, e85_18, e85_21, e85_22, e85_24, e85_27, e85_28, e85_29, e85_32, e85_33, e85_34, e85_37, e85_40, e85_41, e85_42, e85_43, e85_46, e85_49, e85_50, m85, ↓reduceIte, qg_0, qg_1, qg_2, qg_3, qg_4, qg_5, qg_6, qg_7, qg_8, qg_9, qg_10, qg_11, qg_12, qg_13, not_true_eq_false, not_false_eq_true, Nat.reduceBEq, Bool.false_eq_true, ex1, ex3, ex4, exF, qfit_i, qfit_l, qfit_r, qfit_n, qfit_b0, qfit_b1, qcat_i, qcat_r, qcat_n, qcat_l, qroom_0, qroom_c, List.map_cons, List.map_nil, List.sum_cons, List.sum_nil, Nat.reduceAdd, Nat.reduceMul, Nat.reduceLT, Nat.reduceLeDiff, Nat.reduceEqDiff, Nat.reduceSub, decide_true, true_and, and_true, and_self, if_true, if_false, Option.toList_some, Option.toList_none, List.cons_append, List.nil_append, qsL, qlong, List.length_cons, List.length_nil, iN_L, exI, iN_add, iN_mul, iN_le, iN_lt, iN_eq, Nat.le_refl, qfN0, qfN1, uX_16, vX_16, uX_19, vX_19, uX_27, vX_27, uX_30, vX_30, uX_39, vX_39, uX_41, vX_41, uX_43, vX_43, uX_46, vX_46, uX_50, vX_50, uX_53, vX_53, r1, gX_50_2, m, he, p2]
      · simp (disch := first | assumption | omega) only [e85_0, e85_1, e85_4, e85_5, e85_8, e85_9, e85_10, e85_12, e85_15, e85_16, e85_18, e85_21, e85_22, e85_24, e85_27, e85_28, e85_29, e85_32, e85_33, e85_34, e85_37, e85_40, e85_41, e85_42, e85_43, e85_46, e85_49, e85_50, m85, ↓reduceIte, qg_0, qg_1, qg_2, qg_3, qg_4, qg_5, qg_6, qg_7, qg_8, qg_9, qg_10, qg_11, qg_12, qg_13, not_true_eq_false, not_false_eq_true, Nat.reduceBEq, Bool.false_eq_true, ex1, ex3, ex4, exF, qfit_i, qfit_l, qfit_r, qfit_n, qfit_b0, qfit_b1, qcat_i, qcat_r, qcat_n, qcat_l, qroom_0, qroom_c, List.map_cons, List.map_nil, List.sum_cons, List.sum_nil, Nat.reduceAdd, Nat.reduceMul, Nat.reduceLT, Nat.reduceLeDiff, Nat.reduceEqDiff, Nat.reduceSub, decide_true, true_and, and_true, and_self, if_true, if_false, Option.toList_some, Option.toList_none, List.cons_append, List.nil_append, qsL, qlong, List.length_cons, List.length_nil, iN_L, exI, iN_add, iN_mul, iN_le, iN_lt, iN_eq, Nat.le_refl, qfN0, qfN1, uX_16, vX_16, uX_19, vX_19, uX_27, vX_27, uX_30, vX_30, uX_39, vX_39, uX_41, vX_41, uX_43, vX_43, uX_46, vX_46, uX_50, vX_50, uX_53, vX_53, r1, gX_50_2, m, he, p2]
    · have q' : ¬ ((tx.getD (skp tx a) 0 = 60 ∨ tx.getD (skp tx a) 0 = 62) ∨ tx.getD (skp tx a) 0 = 61) := fun z => q (by
        unfold isSg
        rw [Bool.or_eq_true, Bool.or_eq_true, beq_iff_eq, beq_iff_eq, beq_iff_eq]; exact z)
      exact bad _ he (by rw [iN_eq (by omega) (by omega)]; omega) (by rw [iN_eq (by omega) (by omega)]; omega) (by rw [iN_eq (by omega) (by omega)]; omega) (by unfold pChr; rw [if_neg fun z => q z.2])
  · exact bad _ (fun R => x_here0 s1 t1 m (by omega) (by omega)) (by decide) (by decide) (by decide) (by unfold pChr; rw [if_neg fun z => hb z.1])
def mvF (v c : Nat) : Nat := if 1000 < 10 * v + (c - 48) then 1000 else 10 * v + (c - 48)
theorem mv_dval : ∀ (l : List Nat) (v : Nat), (∀ c ∈ l, isDg c = true) → l.foldl (fun a c => 10 * a + (c - 48)) v ≤ 1000 → l.foldl mvF v = l.foldl (fun a c => 10 * a + (c - 48)) v
  | [], _, _, _ => rfl
  | c :: l, v, hl, h => by
    have mono : ∀ (l : List Nat) (v : Nat), v ≤ l.foldl (fun a c => 10 * a + (c - 48)) v := by
      intro l
      induction l with
      | nil => intro v; exact Nat.le_refl _
      | cons c l ih => intro v; exact Nat.le_trans (by omega) (ih (10 * v + (c - 48)))
    rw [List.foldl_cons] at h
    rw [List.foldl_cons, List.foldl_cons]
    have := mono l (10 * v + (c - 48))
    rw [show mvF v c = 10 * v + (c - 48) by unfold mvF; rw [if_neg (by omega)]]
    exact mv_dval l _ (fun c hc => hl c (List.mem_cons_of_mem _ hc)) h
set_option maxRecDepth 100000 in
set_option maxHeartbeats 32000000 in
theorem x_takeNumber {a lo hi' : Nat} (s : ShX h) (t : TxX h tx) (v : AtX h tx a) (vf : FtX h f) (hlo : lo ≤ 2000) (hhi : hi' ≤ 2000) : ∃ (h' : qH) (x : Nat), (∀ R, qMC (d + 4) 86 [.ref 50, .int (iN lo), .int (iN hi')] h R ↔ R = (some (.int (iN x)), h')) ∧ x ≤ 1000 ∧ ChX [] [(50, 2), (50, 6), (50, 7)] 0 h h' ∧ ∃ a', AtX h' tx a' ∧ FtX h' (f.or (erQ (pNum tx a lo hi'))) ∧ ∀ r, pNum tx a lo hi' = .inr r → r = (a', x) := by
  obtain ⟨h1, r1, c1, v1⟩ := x_skips (d := d + 1) s t v
  have s1 := c1.sh
  have t1 := t.ch c1 s (by intro z; cases z) (by decide)
  have f1 := vf.ch c1 (by decide) (by decide)
  obtain ⟨b, eb⟩ : ∃ b, b = skp tx a := ⟨_, rfl⟩
  rw [← eb] at v1
  have m := v1.2
  have l1 := v1.1
  have l160 := t.1
  obtain ⟨G, eG⟩ : ∃ G, G = dgE tx b := ⟨_, rfl⟩
  have run : ∀ (n e x : Nat) (g : qH), e + n = tx.length → ChX [] [(50, 2)] 0 h1 g → xi g 50 2 = iN e → x ≤ 1000 → b + G.length = e + (tkE isDg tx e).length → G.foldl mvF 0 = (tkE isDg tx e).foldl mvF x → ∃ h', (∀ R, qEv (d + 3) 0 qk_86 12 [some (.ref 50), some (.int (iN lo)), some (.int (iN hi')), some (.int (iN b)), some (.int (iN x))] [] g R ↔ qEv (d + 3) 0 qk_86 75 [some (.ref 50), some (.int (iN lo)), some (.int (iN hi')), some (.int (iN b)), some (.int (iN (G.foldl mvF 0)))] [] h' R) ∧ ChX [] [(50, 2)] 0 h1 h' ∧ xi h' 50 2 = iN (b + G.length) ∧ G.foldl mvF 0 ≤ 1000 := by
    intro n
    induction n with
    | zero =>
      intro e x g he cg mg hx hE hF
      rw [tk_end (by omega)] at hE hF
      have hE' : b + G.length = e := hE
      have hF' : G.foldl mvF 0 = x := hF
      have sg := cg.sh
      have t2 := (t1.ch cg s1 (by intro z; cases z) (by decide)).2.1
      refine ⟨g, fun R => ?_, cg, by rw [hE']; exact mg, by rw [hF']; exact hx⟩
      rw [hF', e86_12]
      simp (disch := first | assumption | omega) only [e86_0, e86_1, e86_4, e86_5, e86_8, e86_9, e86_10, e86_13, e86_16, e86_17, e86_20, e86_23, e86_24, e86_27, e86_29, e86_32, e86_33, e86_36, e86_38, e86_41, e86_43, e86_45, e86_46, e86_47, e86_50, e86_51, e86_53, e86_54, e86_57, e86_60, e86_62, e86_63, e86_64, e86_67, e86_68, e86_69, e86_72, e86_76, e86_79, e86_80, e86_83, e86_84, e86_85, e86_86, e86_89, e86_92, e86_93, e86_96, e86_97, e86_98, e86_99, e86_102, e86_104, e86_105, e86_108, e86_110, e86_111, e86_114, e86_115, e86_116, e86_117, e86_120, e86_122, m86, ↓reduceIte, qg_0, qg_1, qg_2, qg_3, qg_4, qg_5, qg_6, qg_7, qg_8, qg_9, qg_10, qg_11, qg_12, qg_13, not_true_eq_false, not_false_eq_true, Nat.reduceBEq, Bool.false_eq_true, ex1, ex3, ex4, exF, qfit_i, qfit_l, qfit_r, qfit_n, qfit_b0, qfit_b1, qcat_i, qcat_r, qcat_n, qcat_l, qroom_0, qroom_c, List.map_cons, List.map_nil, List.sum_cons, List.sum_nil, Nat.reduceAdd, Nat.reduceMul, Nat.reduceLT, Nat.reduceLeDiff, Nat.reduceEqDiff, Nat.reduceSub, decide_true, true_and, and_true, and_self, if_true, if_false, Option.toList_some, Option.toList_none, List.cons_append, List.nil_append, qsL, qlong, List.length_cons, List.length_nil, iN_L, exI, iN_add, iN_mul, iN_le, iN_lt, iN_eq, Nat.le_refl, qfN0, qfN1, uX_16, vX_16, uX_19, vX_19, uX_27, vX_27, uX_30, vX_30, uX_39, vX_39, uX_41, vX_41, uX_43, vX_43, uX_46, vX_46, uX_50, vX_50, uX_53, vX_53, gX_50_1, gX_50_2, t2, mg, show tx.length ≤ e by omega]
    | succ n ih =>
      intro e x g he cg mg hx hE hF
      have hel : e < tx.length := by omega
      have sg := cg.sh
      have tg := t1.ch cg s1 (by intro z; cases z) (by decide)
      have t2 := tg.2.1
      have lt := (tg.2.2 e hel).2
      have hr : ∀ R, qMC (d + 3) 80 [.ref 50] g R ↔ R = (some (.int (iN (tx.getD e 0))), g) := fun R => x_here1 sg tg mg hel
      by_cases q : isDg (tx.getD e 0) = true
      · have q' := of_decide_eq_true q
        rw [tk_in hel q, List.length_cons] at hE
        rw [tk_in hel q, List.foldl_cons] at hF
        have mb : mvF x (tx.getD e 0) ≤ 1000 := by unfold mvF; split <;> omega
        obtain ⟨g1, e1⟩ : ∃ g1, g1 = xV g 50 2 (.int (iN (e + 1))) := ⟨_, rfl⟩
        have p1 : qput g 50 6 2 (.int (iN (e + 1))) = some g1 := by rw [e1]; exact pX_50_2 sg
        have cg1 : ChX [] [(50, 2)] 0 h1 g1 := cg.trans0 (by rw [e1]; exact ChX.setI sg (by decide) (by decide))
        obtain ⟨h', r', z'⟩ := ih (e + 1) (mvF x (tx.getD e 0)) g1 (by omega) cg1 (by rw [e1, xi_xV, if_pos ⟨rfl, rfl⟩]) mb (by omega) hF
        have mn : ∀ R, qMC (d + 3) 314 [.int (iN (x * 10 + tx.getD e 0 - 48)), .int (iN 1000)] g R ↔ R = (some (.int (iN (mvF x (tx.getD e 0)))), g) := fun R => by
          rw [x_min (d := d + 2) (by omega) (by decide)]
          unfold mvF
          rw [show x * 10 + tx.getD e 0 - 48 = 10 * x + (tx.getD e 0 - 48) by omega]
        have sb : iN (x * 10 + tx.getD e 0) - iN 48 = iN (x * 10 + tx.getD e 0 - 48) := iN_sub (by omega)
        refine ⟨h', fun R => ?_, z'⟩
        rw [← r' R, e86_12]
        simp (disch := first | assumption | omega) only [e86_0, e86_1, e86_4, e86_5, e86_8, e86_9, e86_10, e86_13, e86_16, e86_17, e86_20, e86_23, e86_24, e86_27, e86_29, e86_32, e86_33, e86_36, e86_38, e86_41, e86_43, e86_45, e86_46, e86_47, e86_50, e86_51, e86_53, e86_54, e86_57, e86_60, e86_62, e86_63, e86_64, e86_67, e86_68, e86_69, e86_72, e86_76, e86_79, e86_80, e86_83, e86_84, e86_85, e86_86, e86_89, e86_92, e86_93, e86_96, e86_97, e86_98, e86_99, e86_102, e86_104, e86_105, e86_108, e86_110, e86_111, e86_114, e86_115, e86_116, e86_117, e86_120, e86_122, m86, ↓reduceIte, qg_0, qg_1, qg_2, qg_3, qg_4, qg_5, qg_6, qg_7, qg_8, qg_9, qg_10, qg_11, qg_12, qg_13, not_true_eq_false, not_false_eq_true, Nat.reduceBEq, Bool.false_eq_true, ex1, ex3, ex4, exF, qfit_i, qfit_l, qfit_r, qfit_n, qfit_b0, qfit_b1, qcat_i, qcat_r, qcat_n, qcat_l, qroom_0, qroom_c, List.map_cons, List.map_nil, List.sum_cons, List.sum_nil, Nat.reduceAdd, Nat.reduceMul, Nat.reduceLT, Nat.reduceLeDiff, Nat.reduceEqDiff, Nat.reduceSub, decide_true, true_and, and_true, and_self, if_true, if_false, Option.toList_some, Option.toList_none, List.cons_append, List.nil_append, qsL, qlong, List.length_cons, List.length_nil, iN_L, exI, iN_add, iN_mul, iN_le, iN_lt, iN_eq, Nat.le_refl, qfN0, qfN1, uX_16, vX_16, uX_19, vX_19, uX_27, vX_27, uX_30, vX_30, uX_39, vX_39, uX_41, vX_41, uX_43, vX_43, uX_46, vX_46, uX_50, vX_50, uX_53, vX_53, gX_50_1, gX_50_2, t2, mg, show ¬ tx.length ≤ e by omega, hr, show ¬ tx.getD e 0 < 48 by omega, show ¬ 57 < tx.getD e 0 by omega, show 48 ≤ tx.getD e 0 by omega, show tx.getD e 0 ≤ 57 by omega, sb, mn, p1]
      · have q' : ¬ (48 ≤ tx.getD e 0 ∧ tx.getD e 0 ≤ 57) := fun z => q (decide_eq_true z)
        rw [tk_no hel q] at hE hF
        have hE' : b + G.length = e := hE
        have hF' : G.foldl mvF 0 = x := hF
        refine ⟨g, fun R => ?_, cg, by rw [hE']; exact mg, by rw [hF']; exact hx⟩
        rw [hF', e86_12]
        by_cases q1 : 48 ≤ tx.getD e 0
        · simp (disch := first | assumption | omega) only [e86_0, e86_1, e86_4, e86_5, e86_8, e86_9, e86_10, e86_13, e86_16, e86_17, e86_20, e86_23, e86_24, e86_27, e86_29, e86_32, e86_33, e86_36, e86_38, e86_41, e86_43, e86_45, e86_46, e86_47, e86_50, e86_51, e86_53, e86_54, e86_57, e86_60, e86_62, e86_63, e86_64, e86_67, e86_68, e86_69, e86_72, e86_76, e86_79, e86_80, e86_83, e86_84, e86_85, e86_86, e86_89, e86_92, e86_93, e86_96, e86_97, e86_98, e86_99, e86_102, e86_104, e86_105, e86_108, e86_110, e86_111, e86_114, e86_115, e86_116, e86_117, e86_120, e86_122, m86, ↓reduceIte, qg_0, qg_1, qg_2, qg_3, qg_4, qg_5, qg_6, qg_7, qg_8, qg_9, qg_10, qg_11, qg_12, qg_13, not_true_eq_false, not_false_eq_true, Nat.reduceBEq, Bool.false_eq_true, ex1, ex3, ex4, exF, qfit_i, qfit_l, qfit_r, qfit_n, qfit_b0, qfit_b1, qcat_i, qcat_r, qcat_n, qcat_l, qroom_0, qroom_c, List.map_cons, List.map_nil, List.sum_cons, List.sum_nil, Nat.reduceAdd, Nat.reduceMul, Nat.reduceLT, Nat.reduceLeDiff, Nat.reduceEqDiff, Nat.reduceSub, decide_true, true_and, and_true, and_self, if_true, if_false, Option.toList_some, Option.toList_none, List.cons_append, List.nil_append, qsL, qlong, List.length_cons, List.length_nil, iN_L, exI, iN_add, iN_mul, iN_le, iN_lt, iN_eq, Nat.le_refl, qfN0, qfN1, uX_16, vX_16, uX_19, vX_19, uX_27, vX_27, uX_30, vX_30, uX_39, vX_39, uX_41, vX_41, uX_43, vX_43, uX_46, vX_46, uX_50, vX_50, uX_53, vX_53, gX_50_1, gX_50_2, t2, mg, show ¬ tx.length ≤ e by omega, hr, show ¬ tx.getD e 0 < 48 by omega, show 57 < tx.getD e 0 by omega, q1, show ¬ tx.getD e 0 ≤ 57 by omega]
        · simp (disch := first | assumption | omega) only [e86_0, e86_1, e86_4, e86_5, e86_8, e86_9, e86_10, e86_13, e86_16, e86_17, e86_20, e86_23, e86_24, e86_27, e86_29, e86_32, e86_33, e86_36, e86_38, e86_41, e86_43, e86_45, e86_46, e86_47, e86_50, e86_51, e86_53, e86_54, e86_57, e86_60, e86_62, e86_63, e86_64, e86_67, e86_68, e86_69, e86_72, e86_76, e86_79, e86_80, e86_83, e86_84, e86_85, e86_86, e86_89, e86_92, e86_93, e86_96, e86_97, e86_98, e86_99, e86_102, e86_104, e86_105, e86_108, e86_110, e86_111, e86_114, e86_115, e86_116, e86_117, e86_120, e86_122, m86, ↓reduceIte, qg_0, qg_1, qg_2, qg_3, qg_4, qg_5, qg_6, qg_7, qg_8, qg_9, qg_10, qg_11, qg_12, qg_13, not_true_eq_false, not_false_eq_true, Nat.reduceBEq, Bool.false_eq_true, ex1, ex3, ex4, exF, qfit_i, qfit_l, qfit_r, qfit_n, qfit_b0, qfit_b1, qcat_i, qcat_r, qcat_n, qcat_l, qroom_0, qroom_c, List.map_cons, List.map_nil, List.sum_cons, List.sum_nil, Nat.reduceAdd, Nat.reduceMul, Nat.reduceLT, Nat.reduceLeDiff, Nat.reduceEqDiff, Nat.reduceSub, decide_true, true_and, and_true, and_self, if_true, if_false, Option.toList_some, Option.toList_none, List.cons_append, List.nil_append, qsL, qlong, List.length_cons, List.length_nil, iN_L, exI, iN_add, iN_mul, iN_le, iN_lt, iN_eq, Nat.le_refl, qfN0, qfN1, uX_16, vX_16, uX_19, vX_19, uX_27, vX_27, uX_30, vX_30, uX_39, vX_39, uX_41, vX_41, uX_43, vX_43, uX_46, vX_46, uX_50, vX_50, uX_53, vX_53, gX_50_1, gX_50_2, t2, mg, show ¬ tx.length ≤ e by omega, hr, show tx.getD e 0 < 48 by omega, q1]
  obtain ⟨h2, r2, c2, m2, xb⟩ := run (tx.length - b) b 0 h1 (by omega) (ChX.refl s1) m (by omega) (by rw [eG]; rfl) (by rw [eG]; rfl)
  obtain ⟨x, ex⟩ : ∃ x, x = G.foldl mvF 0 := ⟨_, rfl⟩
  rw [← ex] at r2 xb
  have s2 := c2.sh
  have f2 := f1.ch c2 (by decide) (by decide)
  have ch2 : ChX [] [(50, 2), (50, 6), (50, 7)] 0 h h2 := (c1.trans0 c2).mono (by intro _ z; cases z) (by decide) (Nat.le_refl _)
  have bl : b + G.length ≤ tx.length := by rw [eG]; exact tk_le l1
  have Gd : ∀ c ∈ G, isDg c = true := by rw [eG]; exact tk_all
  have r0 : ∀ R, qMC (d + 4) 86 [.ref 50, .int (iN lo), .int (iN hi')] h R ↔ qEv (d + 3) 0 qk_86 75 [some (.ref 50), some (.int (iN lo)), some (.int (iN hi')), some (.int (iN b)), some (.int (iN x))] [] h2 R := fun R => by
    rw [← r2 R]
    simp (disch := first | assumption | omega) only [e86_0, e86_1, e86_4, e86_5, e86_8, e86_9, e86_10, e86_13, e86_16, e86_17, e86_20, e86_23, e86_24, e86_27, e86_29, e86_32, e86_33, e86_36, e86_38, e86_41, e86_43, e86_45, e86_46, e86_47, e86_50, e86_51, e86_53, e86_54, e86_57, e86_60, e86_62, e86_63, e86_64, e86_67, e86_68, e86_69, e86_72, e86_76, e86_79, e86_80, e86_83, e86_84, e86_85, e86_86, e86_89, e86_92, e86_93, e86_96, e86_97, e86_98, e86_99, e86_102, e86_104, e86_105, e86_108, e86_110, e86_111, e86_114, e86_115, e86_116, e86_117, e86_120, e86_122, m86, ↓reduceIte, qg_0, qg_1, qg_2, qg_3, qg_4, qg_5, qg_6, qg_7, qg_8, qg_9, qg_10, qg_11, qg_12, qg_13, not_true_eq_false, not_false_eq_true, Nat.reduceBEq, Bool.false_eq_true, ex1, ex3, ex4, exF, qfit_i, qfit_l, qfit_r, qfit_n, qfit_b0, qfit_b1, qcat_i, qcat_r, qcat_n, qcat_l, qroom_0, qroom_c, List.map_cons, List.map_nil, List.sum_cons, List.sum_nil, Nat.reduceAdd, Nat.reduceMul, Nat.reduceLT, Nat.reduceLeDiff, Nat.reduceEqDiff, Nat.reduceSub, decide_true, true_and, and_true, and_self, if_true, if_false, Option.toList_some, Option.toList_none, List.cons_append, List.nil_append, qsL, qlong, List.length_cons, List.length_nil, iN_L, exI, iN_add, iN_mul, iN_le, iN_lt, iN_eq, Nat.le_refl, qfN0, qfN1, uX_16, vX_16, uX_19, vX_19, uX_27, vX_27, uX_30, vX_30, uX_39, vX_39, uX_41, vX_41, uX_43, vX_43, uX_46, vX_46, uX_50, vX_50, uX_53, vX_53, r1, gX_50_2, m]
  have sb : iN (b + G.length) - iN b = iN G.length := by rw [iN_sub (by omega), Nat.add_sub_cancel_left]
  have bad : ∀ k, 1 ≤ k ∧ k ≤ 2 → pNum tx a lo hi' = .inl (k, b) → (∀ h3, (∀ R, qMC (d + 3) 79 [.ref 50, .int (iN k), .int (iN b)] h2 R ↔ R = (none, h3)) → ∀ R, qMC (d + 4) 86 [.ref 50, .int (iN lo), .int (iN hi')] h R ↔ R = (some (.int (iN x)), h3)) → ∃ (h' : qH) (x : Nat), (∀ R, qMC (d + 4) 86 [.ref 50, .int (iN lo), .int (iN hi')] h R ↔ R = (some (.int (iN x)), h')) ∧ x ≤ 1000 ∧ ChX [] [(50, 2), (50, 6), (50, 7)] 0 h h' ∧ ∃ a', AtX h' tx a' ∧ FtX h' (f.or (erQ (pNum tx a lo hi'))) ∧ ∀ r, pNum tx a lo hi' = .inr r → r = (a', x) := fun k hk e hr => by
    obtain ⟨h3, r3, c3, f3⟩ := x_fail (d := d + 2) (k := k) (p := b) s2 f2 ⟨by omega, by omega⟩
    exact ⟨h3, x, hr h3 r3, xb, ch2.trans0 (c3.mono (by intro _ z; cases z) (by decide) (Nat.le_refl _)), b + G.length, ⟨bl, (c3.xi (by decide) (by decide)).trans m2⟩, by rw [e]; exact f3, fun r hr => by rw [e] at hr; cases hr⟩
  have eN : pNum tx a lo hi' = if G = [] then .inl (1, b) else if 3 < G.length ∨ dval G < lo ∨ hi' < dval G then .inl (2, b) else .inr (b + G.length, dval G) := by rw [eG, eb]; rfl
  by_cases g0 : G = []
  · refine bad 1 ⟨by decide, by decide⟩ (by rw [eN, if_pos g0]) fun h3 r3 R => ?_
    have gl : G.length = 0 := by rw [g0]; rfl
    rw [gl] at m2 sb
    rw [r0 R, e86_75]
    simp (disch := first | assumption | omega) only [e86_0, e86_1, e86_4, e86_5, e86_8, e86_9, e86_10, e86_13, e86_16, e86_17, e86_20, e86_23, e86_24, e86_27, e86_29, e86_32, e86_33, e86_36, e86_38, e86_41, e86_43, e86_45, e86_46, e86_47, e86_50, e86_51, e86_53, e86_54, e86_57, e86_60, e86_62, e86_63, e86_64, e86_67, e86_68, e86_69, e86_72, e86_76, e86_79, e86_80, e86_83, e86_84, e86_85, e86_86, e86_89, e86_92, e86_93, e86_96, e86_97, e86_98, e86_99, e86_102, e86_104, e86_105, e86_108, e86_110, e86_111, e86_114, e86_115, e86_116, e86_117, e86_120, e86_122, m86, ↓reduceIte, qg_0, qg_1, qg_2, qg_3, qg_4, qg_5, qg_6, qg_7, qg_8, qg_9, qg_10, qg_11, qg_12, qg_13, not_true_eq_false, not_false_eq_true, Nat.reduceBEq, Bool.false_eq_true, ex1, ex3, ex4, exF, qfit_i, qfit_l, qfit_r, qfit_n, qfit_b0, qfit_b1, qcat_i, qcat_r, qcat_n, qcat_l, qroom_0, qroom_c, List.map_cons, List.map_nil, List.sum_cons, List.sum_nil, Nat.reduceAdd, Nat.reduceMul, Nat.reduceLT, Nat.reduceLeDiff, Nat.reduceEqDiff, Nat.reduceSub, decide_true, true_and, and_true, and_self, if_true, if_false, Option.toList_some, Option.toList_none, List.cons_append, List.nil_append, qsL, qlong, List.length_cons, List.length_nil, iN_L, exI, iN_add, iN_mul, iN_le, iN_lt, iN_eq, Nat.le_refl, qfN0, qfN1, uX_16, vX_16, uX_19, vX_19, uX_27, vX_27, uX_30, vX_30, uX_39, vX_39, uX_41, vX_41, uX_43, vX_43, uX_46, vX_46, uX_50, vX_50, uX_53, vX_53, gX_50_2, m2, Nat.add_zero b, r3]
  · have gl : 0 < G.length := List.length_pos_iff.mpr g0
    by_cases g1 : 3 < G.length
    · refine bad 2 ⟨by decide, by decide⟩ (by rw [eN, if_neg g0, if_pos (Or.inl g1)]) fun h3 r3 R => ?_
      rw [r0 R, e86_75]
      simp (disch := first | assumption | omega) only [e86_0, e86_1, e86_4, e86_5, e86_8, e86_9, e86_10, e86_13, e86_16, e86_17, e86_20, e86_23, e86_24, e86_27, e86_29, e86_32, e86_33, e86_36, e86_38, e86_41, e86_43, e86_45, e86_46, e86_47, e86_50, e86_51, e86_53, e86_54, e86_57, e86_60, e86_62, e86_63, e86_64, e86_67, e86_68, e86_69, e86_72, e86_76, e86_79, e86_80, e86_83, e86_84, e86_85, e86_86, e86_89, e86_92, e86_93, e86_96, e86_97, e86_98, e86_99, e86_102, e86_104, e86_105, e86_108, e86_110, e86_111, e86_114, e86_115, e86_116, e86_117, e86_120, e86_122, m86, ↓reduceIte, qg_0, qg_1, qg_2, qg_3, qg_4, qg_5, qg_6, qg_7, qg_8, qg_9, qg_10, qg_11, qg_12, qg_13, not_true_eq_false, not_false_eq_true, Nat.reduceBEq, Bool.false_eq_true, ex1, ex3, ex4, exF, qfit_i, qfit_l, qfit_r, qfit_n, qfit_b0, qfit_b1, qcat_i, qcat_r, qcat_n, qcat_l, qroom_0, qroom_c, List.map_cons, List.map_nil, List.sum_cons, List.sum_nil, Nat.reduceAdd, Nat.reduceMul, Nat.reduceLT, Nat.reduceLeDiff, Nat.reduceEqDiff, Nat.reduceSub, decide_true, true_and, and_true, and_self, if_true, if_false, Option.toList_some, Option.toList_none, List.cons_append, List.nil_append, qsL, qlong, List.length_cons, List.length_nil, iN_L, exI, iN_add, iN_mul, iN_le, iN_lt, iN_eq, Nat.le_refl, qfN0, qfN1, uX_16, vX_16, uX_19, vX_19, uX_27, vX_27, uX_30, vX_30, uX_39, vX_39, uX_41, vX_41, uX_43, vX_43, uX_46, vX_46, uX_50, vX_50, uX_53, vX_53, gX_50_2, m2, show ¬ b + G.length = b by omega, sb, g1, show ¬ G.length ≤ 3 by omega, r3]
    · have dv := nvA_val Gd (by omega)
      have exd : x = dval G := by rw [ex]; exact mv_dval G 0 Gd (by have := dv.2; unfold dval at this; omega)
      by_cases g2 : dval G < lo
      · refine bad 2 ⟨by decide, by decide⟩ (by rw [eN, if_neg g0, if_pos (Or.inr (Or.inl g2))]) fun h3 r3 R => ?_
        rw [r0 R, e86_75]
        simp (disch := first | assumption | omega) only [e86_0, e86_1, e86_4, e86_5, e86_8, e86_9, e86_10, e86_13, e86_16, e86_17, e86_20, e86_23, e86_24, e86_27, e86_29, e86_32, e86_33, e86_36, e86_38, e86_41, e86_43, e86_45, e86_46, e86_47, e86_50, e86_51, e86_53, e86_54, e86_57, e86_60, e86_62, e86_63, e86_64, e86_67, e86_68, e86_69, e86_72, e86_76, e86_79, e86_80, e86_83, e86_84, e86_85, e86_86, e86_89, e86_92, e86_93, e86_96, e86_97, e86_98, e86_99, e86_102, e86_104, e86_105, e86_108, e86_110, e86_111, e86_114, e86_115, e86_116, e86_117, e86_120, e86_122, m86, ↓reduceIte, qg_0, qg_1, qg_2, qg_3, qg_4, qg_5, qg_6, qg_7, qg_8, qg_9, qg_10, qg_11, qg_12, qg_13, not_true_eq_false, not_false_eq_true, Nat.reduceBEq, Bool.false_eq_true, ex1, ex3, ex4, exF, qfit_i, qfit_l, qfit_r, qfit_n, qfit_b0, qfit_b1, qcat_i, qcat_r, qcat_n, qcat_l, qroom_0, qroom_c, List.map_cons, List.map_nil, List.sum_cons, List.sum_nil, Nat.reduceAdd, Nat.reduceMul, Nat.reduceLT, Nat.reduceLeDiff, Nat.reduceEqDiff, Nat.reduceSub, decide_true, true_and, and_true, and_self, if_true, if_false, Option.toList_some, Option.toList_none, List.cons_append, List.nil_append, qsL, qlong, List.length_cons, List.length_nil, iN_L, exI, iN_add, iN_mul, iN_le, iN_lt, iN_eq, Nat.le_refl, qfN0, qfN1, uX_16, vX_16, uX_19, vX_19, uX_27, vX_27, uX_30, vX_30, uX_39, vX_39, uX_41, vX_41, uX_43, vX_43, uX_46, vX_46, uX_50, vX_50, uX_53, vX_53, gX_50_2, m2, show ¬ b + G.length = b by omega, sb, g1, show G.length ≤ 3 by omega, show x < lo by omega, show ¬ lo ≤ x by omega, r3]
      · by_cases g3 : hi' < dval G
        · refine bad 2 ⟨by decide, by decide⟩ (by rw [eN, if_neg g0, if_pos (Or.inr (Or.inr g3))]) fun h3 r3 R => ?_
          rw [r0 R, e86_75]
          simp (disch := first | assumption | omega) only [e86_0, e86_1, e86_4, e86_5, e86_8, e86_9, e86_10, e86_13, e86_16, e86_17, e86_20, e86_23, e86_24, e86_27, e86_29, e86_32, e86_33, e86_36, e86_38, e86_41, e86_43, e86_45, e86_46, e86_47, e86_50, e86_51, e86_53, e86_54, e86_57, e86_60, e86_62, e86_63, e86_64, e86_67, e86_68, e86_69, e86_72, e86_76, e86_79, e86_80, e86_83, e86_84, e86_85, e86_86, e86_89, e86_92, e86_93, e86_96, e86_97, e86_98, e86_99, e86_102, e86_104, e86_105, e86_108, e86_110, e86_111, e86_114, e86_115, e86_116, e86_117, e86_120, e86_122, m86, ↓reduceIte, qg_0, qg_1, qg_2, qg_3, qg_4, qg_5, qg_6, qg_7, qg_8, qg_9, qg_10, qg_11, qg_12, qg_13, not_true_eq_false, not_false_eq_true, Nat.reduceBEq, Bool.false_eq_true, ex1, ex3, ex4, exF, qfit_i, qfit_l, qfit_r, qfit_n, qfit_b0, qfit_b1, qcat_i, qcat_r, qcat_n, qcat_l, qroom_0, qroom_c, List.map_cons, List.map_nil, List.sum_cons, List.sum_nil, Nat.reduceAdd, Nat.reduceMul, Nat.reduceLT, Nat.reduceLeDiff, Nat.reduceEqDiff, Nat.reduceSub, decide_true, true_and, and_true, and_self, if_true, if_false, Option.toList_some, Option.toList_none, List.cons_append, List.nil_append, qsL, qlong, List.length_cons, List.length_nil, iN_L, exI, iN_add, iN_mul, iN_le, iN_lt, iN_eq, Nat.le_refl, qfN0, qfN1, uX_16, vX_16, uX_19, vX_19, uX_27, vX_27, uX_30, vX_30, uX_39, vX_39, uX_41, vX_41, uX_43, vX_43, uX_46, vX_46, uX_50, vX_50, uX_53, vX_53, gX_50_2, m2, show ¬ b + G.length = b by omega, sb, g1, show G.length ≤ 3 by omega, show ¬ x < lo by omega, show lo ≤ x by omega, show hi' < x by omega, show ¬ x ≤ hi' by omega, r3]
        · have e : pNum tx a lo hi' = .inr (b + G.length, dval G) := by
            rw [eN, if_neg g0, if_neg]
            rintro (z | z | z)
            · exact g1 z
            · exact g2 z
            · exact g3 z
          refine ⟨h2, x, fun R => ?_, xb, ch2, b + G.length, ⟨bl, m2⟩, by rw [e]; cases f <;> exact f2, fun r hr => by rw [e] at hr; injection hr with hr; rw [← hr, exd]⟩
          rw [r0 R, e86_75]
          simp (disch := first | assumption | omega) only [e86_0, e86_1, e86_4, e86_5, e86_8, e86_9, e86_10, e86_13, e86_16, e86_17, e86_20, e86_23, e86_24, e86_27, e86_29, e86_32, e86_33, e86_36, e86_38, e86_41, e86_43, e86_45, e86_46, e86_47, e86_50, e86_51, e86_53, e86_54, e86_57, e86_60, e86_62, e86_63, e86_64, e86_67, e86_68, e86_69, e86_72, e86_76, e86_79, e86_80, e86_83, e86_84, e86_85, e86_86, e86_89, e86_92, e86_93, e86_96, e86_97, e86_98, e86_99, e86_102, e86_104, e86_105, e86_108, e86_110, e86_111, e86_114, e86_115, e86_116, e86_117, e86_120, e86_122, m86, ↓reduceIte, qg_0, qg_1, qg_2, qg_3, qg_4, qg_5, qg_6, qg_7, qg_8, qg_9, qg_10, qg_11, qg_12, qg_13, not_true_eq_false, not_false_eq_true, Nat.reduceBEq, Bool.false_eq_true, ex1, ex3, ex4, exF, qfit_i, qfit_l, qfit_r, qfit_n, qfit_b0, qfit_b1, qcat_i, qcat_r, qcat_n, qcat_l, qroom_0, qroom_c, List.map_cons, List.map_nil, List.sum_cons, List.sum_nil, Nat.reduceAdd, Nat.reduceMul, Nat.reduceLT, Nat.reduceLeDiff, Nat.reduceEqDiff, Nat.reduceSub, decide_true, true_and, and_true, and_self, if_true, if_false, Option.toList_some, Option.toList_none, List.cons_append, List.nil_append, qsL, qlong, List.length_cons, List.length_nil, iN_L, exI, iN_add, iN_mul, iN_le, iN_lt, iN_eq, Nat.le_refl, qfN0, qfN1, uX_16, vX_16, uX_19, vX_19, uX_27, vX_27, uX_30, vX_30, uX_39, vX_39, uX_41, vX_41, uX_43, vX_43, uX_46, vX_46, uX_50, vX_50, uX_53, vX_53, gX_50_2, m2, show ¬ b + G.length = b by omega, sb, g1, show G.length ≤ 3 by omega, show ¬ x < lo by omega, show lo ≤ x by omega, show ¬ hi' < x by omega, show x ≤ hi' by omega]
set_option maxRecDepth 100000 in
theorem x_partC {c j : Nat} (s : ShX h) (hc : c * 5 + j < 135) : qMC (d + 1) 73 [.ref 50, .int (iN c), .int (iN j)] h R ↔ R = (some (.int (hi h 52 (c * 5 + j))), h) := by
  have ln := lnI (kX_52 s)
  have r : qiald h 52 (iN (c * 5 + j)) = some (hi h 52 (c * 5 + j)) := rX_52 s hc
  simp (disch := first | assumption | omega) only [e73_0, e73_1, e73_2, e73_3, e73_4, e73_5, e73_6, e73_7, e73_10, e73_11, e73_12, e73_15, e73_16, e73_19, e73_20, e73_23, e73_24, e73_25, e73_28, e73_29, m73, ↓reduceIte, qg_0, qg_1, qg_2, qg_3, qg_4, qg_5, qg_6, qg_7, qg_8, qg_9, qg_10, qg_11, qg_12, qg_13, not_true_eq_false, not_false_eq_true, Nat.reduceBEq, Bool.false_eq_true, ex1, ex3, ex4, exF, qfit_i, qfit_l, qfit_r, qfit_n, qfit_b0, qfit_b1, qcat_i, qcat_r, qcat_n, qcat_l, qroom_0, qroom_c, List.map_cons, List.map_nil, List.sum_cons, List.sum_nil, Nat.reduceAdd, Nat.reduceMul, Nat.reduceLT, Nat.reduceLeDiff, Nat.reduceEqDiff, Nat.reduceSub, decide_true, true_and, and_true, and_self, if_true, if_false, Option.toList_some, Option.toList_none, List.cons_append, List.nil_append, qsL, qlong, List.length_cons, List.length_nil, iN_L, exI, iN_add, iN_mul, iN_le, iN_lt, iN_eq, Nat.le_refl, qfN0, qfN1, uX_16, vX_16, uX_19, vX_19, uX_27, vX_27, uX_30, vX_30, uX_39, vX_39, uX_41, vX_41, uX_43, vX_43, uX_46, vX_46, uX_50, vX_50, uX_53, vX_53, gX_50_4, ln, show ¬ c * 5 + j < 0 by omega, show ¬ 135 ≤ c * 5 + j by omega, r]
set_option maxRecDepth 100000 in
theorem x_put {c j : Nat} {x : Int32} (s : ShX h) (m : xi h 50 5 = iN c) (hc : c * 5 + j < 135) : qMC (d + 1) 74 [.ref 50, .int (iN j), .int x] h R ↔ R = (none, sI h 52 (upd (hi h 52) (c * 5 + j) x)) := by
  have ln := lnI (kX_52 s)
  have w : qiast h 52 (iN (c * 5 + j)) x = some (sI h 52 (upd (hi h 52) (c * 5 + j) x)) := wX_52 s hc
  simp (disch := first | assumption | omega) only [e74_0, e74_1, e74_4, e74_5, e74_6, e74_7, e74_8, e74_9, e74_10, e74_13, e74_14, e74_15, e74_18, e74_19, e74_22, e74_23, e74_26, e74_27, e74_28, e74_29, m74, ↓reduceIte, qg_0, qg_1, qg_2, qg_3, qg_4, qg_5, qg_6, qg_7, qg_8, qg_9, qg_10, qg_11, qg_12, qg_13, not_true_eq_false, not_false_eq_true, Nat.reduceBEq, Bool.false_eq_true, ex1, ex3, ex4, exF, qfit_i, qfit_l, qfit_r, qfit_n, qfit_b0, qfit_b1, qcat_i, qcat_r, qcat_n, qcat_l, qroom_0, qroom_c, List.map_cons, List.map_nil, List.sum_cons, List.sum_nil, Nat.reduceAdd, Nat.reduceMul, Nat.reduceLT, Nat.reduceLeDiff, Nat.reduceEqDiff, Nat.reduceSub, decide_true, true_and, and_true, and_self, if_true, if_false, Option.toList_some, Option.toList_none, List.cons_append, List.nil_append, qsL, qlong, List.length_cons, List.length_nil, iN_L, exI, iN_add, iN_mul, iN_le, iN_lt, iN_eq, Nat.le_refl, qfN0, qfN1, uX_16, vX_16, uX_19, vX_19, uX_27, vX_27, uX_30, vX_30, uX_39, vX_39, uX_41, vX_41, uX_43, vX_43, uX_46, vX_46, uX_50, vX_50, uX_53, vX_53, gX_50_4, gX_50_5, m, ln, show ¬ c * 5 + j < 0 by omega, show ¬ 135 ≤ c * 5 + j by omega, w]
end XNUMBER

/-! ===== THE CLASS: the text, words and signs ===== -/
section XWORDS
variable {d : Nat} {h : qH} {R : qRes} {tx : List Nat}
theorem TxX.ch {A : List Nat} {J : List (Nat × Nat)} {k : Nat} {h' : qH} (t : TxX h tx) (c : ChX A J k h h') (s : ShX h) (hA : 51 ∉ A) (hJ : (50, 1) ∉ J) : TxX h' tx := ⟨t.1, (c.xi (by decide) hJ).trans t.2.1, fun k hk => by rw [c.hi hA (by decide) (s.lt (by decide))]; exact t.2.2 k hk⟩
def AtX (h : qH) (tx : List Nat) (a : Nat) : Prop := a ≤ tx.length ∧ xi h 50 2 = iN a
def FtX (h : qH) : Option pFl → Prop
  | none => xi h 50 6 = iN 0 ∧ xi h 50 7 = -iN 1
  | some f => (1 ≤ f.1 ∧ f.1 ≤ 3) ∧ xi h 50 6 = iN f.1 ∧ xi h 50 7 = iN f.2
def erQ {α : Type} : pFl ⊕ α → Option pFl
  | .inl e => some e
  | .inr _ => none
theorem FtX.ch {A : List Nat} {J : List (Nat × Nat)} {k : Nat} {h' : qH} {f : Option pFl} (t : FtX h f) (c : ChX A J k h h') (h6 : (50, 6) ∉ J) (h7 : (50, 7) ∉ J) : FtX h' f := by
  have e6 := c.xi (b := 50) (by decide) h6
  have e7 := c.xi (b := 50) (by decide) h7
  cases f with
  | none => exact ⟨e6.trans t.1, e7.trans t.2⟩
  | some f => exact ⟨t.1, e6.trans t.2.1, e7.trans t.2.2⟩
theorem AtX.ch {A : List Nat} {J : List (Nat × Nat)} {k a : Nat} {h' : qH} (t : AtX h tx a) (c : ChX A J k h h') (h2 : (50, 2) ∉ J) : AtX h' tx a := ⟨t.1, (c.xi (by decide) h2).trans t.2⟩
set_option maxRecDepth 100000 in
theorem x_here1 {a : Nat} (s : ShX h) (t : TxX h tx) (m : xi h 50 2 = iN a) (ha : a < tx.length) : qMC (d + 1) 80 [.ref 50] h R ↔ R = (some (.int (iN (tx.getD a 0))), h) := by
  obtain ⟨t1, t2, t3⟩ := t
  have e := (t3 a ha).1
  have r : qiald h 51 (iN a) = some (iN (tx.getD a 0)) := by rw [rX_51 s (by omega), e]
  simp (disch := first | assumption | omega) only [e80_0, e80_1, e80_4, e80_5, e80_8, e80_11, e80_12, e80_15, e80_18, e80_21, e80_22, e80_25, e80_26, e80_29, e80_30, e80_33, e80_34, m80, ↓reduceIte, qg_0, qg_1, qg_2, qg_3, qg_4, qg_5, qg_6, qg_7, qg_8, qg_9, qg_10, qg_11, qg_12, qg_13, not_true_eq_false, not_false_eq_true, Nat.reduceBEq, Bool.false_eq_true, ex1, ex3, ex4, exF, qfit_i, qfit_l, qfit_r, qfit_n, qfit_b0, qfit_b1, qcat_i, qcat_r, qcat_n, qcat_l, qroom_0, qroom_c, List.map_cons, List.map_nil, List.sum_cons, List.sum_nil, Nat.reduceAdd, Nat.reduceMul, Nat.reduceLT, Nat.reduceLeDiff, Nat.reduceEqDiff, Nat.reduceSub, decide_true, true_and, and_true, and_self, if_true, if_false, Option.toList_some, Option.toList_none, List.cons_append, List.nil_append, qsL, qlong, List.length_cons, List.length_nil, iN_L, exI, iN_add, iN_mul, iN_le, iN_lt, iN_eq, Nat.le_refl, qfN0, qfN1, uX_16, vX_16, uX_19, vX_19, uX_27, vX_27, uX_30, vX_30, uX_39, vX_39, uX_41, vX_41, uX_43, vX_43, uX_46, vX_46, uX_50, vX_50, uX_53, vX_53, gX_50_0, gX_50_1, gX_50_2, m, t2, show ¬ tx.length ≤ a by omega, show ¬ 160 ≤ a by omega, r]
set_option maxRecDepth 100000 in
theorem x_here0 {a : Nat} (s : ShX h) (t : TxX h tx) (m : xi h 50 2 = iN a) (ha : tx.length ≤ a) (hb : a < 1000) : qMC (d + 1) 80 [.ref 50] h R ↔ R = (some (.int (-iN 1)), h) := by
  obtain ⟨t1, t2, t3⟩ := t
  simp (disch := first | assumption | omega) only [e80_0, e80_1, e80_4, e80_5, e80_8, e80_11, e80_12, e80_15, e80_18, e80_21, e80_22, e80_25, e80_26, e80_29, e80_30, e80_33, e80_34, m80, ↓reduceIte, qg_0, qg_1, qg_2, qg_3, qg_4, qg_5, qg_6, qg_7, qg_8, qg_9, qg_10, qg_11, qg_12, qg_13, not_true_eq_false, not_false_eq_true, Nat.reduceBEq, Bool.false_eq_true, ex1, ex3, ex4, exF, qfit_i, qfit_l, qfit_r, qfit_n, qfit_b0, qfit_b1, qcat_i, qcat_r, qcat_n, qcat_l, qroom_0, qroom_c, List.map_cons, List.map_nil, List.sum_cons, List.sum_nil, Nat.reduceAdd, Nat.reduceMul, Nat.reduceLT, Nat.reduceLeDiff, Nat.reduceEqDiff, Nat.reduceSub, decide_true, true_and, and_true, and_self, if_true, if_false, Option.toList_some, Option.toList_none, List.cons_append, List.nil_append, qsL, qlong, List.length_cons, List.length_nil, iN_L, exI, iN_add, iN_mul, iN_le, iN_lt, iN_eq, Nat.le_refl, qfN0, qfN1, uX_16, vX_16, uX_19, vX_19, uX_27, vX_27, uX_30, vX_30, uX_39, vX_39, uX_41, vX_41, uX_43, vX_43, uX_46, vX_46, uX_50, vX_50, uX_53, vX_53, gX_50_0, gX_50_1, gX_50_2, m, t2, ha]
set_option maxRecDepth 100000 in
set_option maxHeartbeats 16000000 in
theorem x_skip : ∀ (w a : Nat) (h0 : qH), ShX h0 → TxX h0 tx → a + w = tx.length → xi h0 50 2 = iN a → ∃ h', (∀ R, qEv (d + 1) 4 qk_81 0 [some (.ref 50)] [] h0 R ↔ R = (none, h')) ∧ ChX [] [(50, 2)] 0 h0 h' ∧ AtX h' tx (skp tx a)
  | 0, a, h0, s, t, hw, m => by
    obtain ⟨t1, t2, t3⟩ := t
    refine ⟨h0, fun R => ?_, ChX.refl s, by rw [skp_end (by omega)]; exact ⟨by omega, m⟩⟩
    rw [e81_0]
    simp (disch := first | assumption | omega) only [e81_1, e81_4, e81_5, e81_8, e81_11, e81_12, e81_15, e81_17, e81_20, e81_21, e81_22, e81_25, e81_26, e81_27, e81_30, e81_33, m81, ↓reduceIte, qg_0, qg_1, qg_2, qg_3, qg_4, qg_5, qg_6, qg_7, qg_8, qg_9, qg_10, qg_11, qg_12, qg_13, not_true_eq_false, not_false_eq_true, Nat.reduceBEq, Bool.false_eq_true, ex1, ex3, ex4, exF, qfit_i, qfit_l, qfit_r, qfit_n, qfit_b0, qfit_b1, qcat_i, qcat_r, qcat_n, qcat_l, qroom_0, qroom_c, List.map_cons, List.map_nil, List.sum_cons, List.sum_nil, Nat.reduceAdd, Nat.reduceMul, Nat.reduceLT, Nat.reduceLeDiff, Nat.reduceEqDiff, Nat.reduceSub, decide_true, true_and, and_true, and_self, if_true, if_false, Option.toList_some, Option.toList_none, List.cons_append, List.nil_append, qsL, qlong, List.length_cons, List.length_nil, iN_L, exI, iN_add, iN_mul, iN_le, iN_lt, iN_eq, Nat.le_refl, qfN0, qfN1, uX_16, vX_16, uX_19, vX_19, uX_27, vX_27, uX_30, vX_30, uX_39, vX_39, uX_41, vX_41, uX_43, vX_43, uX_46, vX_46, uX_50, vX_50, uX_53, vX_53, gX_50_1, gX_50_2, m, t2, show tx.length ≤ a by omega]
  | w + 1, a, h0, s, t, hw, m => by
    have ha : a < tx.length := by omega
    have t2 := t.2.1
    have t1 := t.1
    obtain ⟨-, b⟩ := t.2.2 a ha
    have he : ∀ R, qMC (d + 1) 80 [.ref 50] h0 R ↔ R = (some (.int (iN (tx.getD a 0))), h0) := fun R => x_here1 s t m ha
    by_cases q : tx.getD a 0 = 32
    · obtain ⟨h1, e1⟩ : ∃ h1, h1 = xV h0 50 2 (.int (iN (a + 1))) := ⟨_, rfl⟩
      have p1 : qput h0 50 6 2 (.int (iN (a + 1))) = some h1 := by rw [e1]; exact pX_50_2 s
      have c1 : ChX [] [(50, 2)] 0 h0 h1 := by rw [e1]; exact ChX.setI s (by decide) (by decide)
      obtain ⟨h', r', c', v'⟩ := x_skip w (a + 1) h1 c1.sh (t.ch c1 s (by intro z; cases z) (by decide)) (by omega) (by rw [e1, xi_xV, if_pos ⟨rfl, rfl⟩])
      refine ⟨h', fun R => ?_, c1.trans0 c', by rw [skp_in ha q]; exact v'⟩
      rw [← r' R, e81_0]
      rw [q] at he
      simp (disch := first | assumption | omega) only [e81_1, e81_4, e81_5, e81_8, e81_11, e81_12, e81_15, e81_17, e81_20, e81_21, e81_22, e81_25, e81_26, e81_27, e81_30, e81_33, m81, ↓reduceIte, qg_0, qg_1, qg_2, qg_3, qg_4, qg_5, qg_6, qg_7, qg_8, qg_9, qg_10, qg_11, qg_12, qg_13, not_true_eq_false, not_false_eq_true, Nat.reduceBEq, Bool.false_eq_true, ex1, ex3, ex4, exF, qfit_i, qfit_l, qfit_r, qfit_n, qfit_b0, qfit_b1, qcat_i, qcat_r, qcat_n, qcat_l, qroom_0, qroom_c, List.map_cons, List.map_nil, List.sum_cons, List.sum_nil, Nat.reduceAdd, Nat.reduceMul, Nat.reduceLT, Nat.reduceLeDiff, Nat.reduceEqDiff, Nat.reduceSub, decide_true, true_and, and_true, and_self, if_true, if_false, Option.toList_some, Option.toList_none, List.cons_append, List.nil_append, qsL, qlong, List.length_cons, List.length_nil, iN_L, exI, iN_add, iN_mul, iN_le, iN_lt, iN_eq, Nat.le_refl, qfN0, qfN1, uX_16, vX_16, uX_19, vX_19, uX_27, vX_27, uX_30, vX_30, uX_39, vX_39, uX_41, vX_41, uX_43, vX_43, uX_46, vX_46, uX_50, vX_50, uX_53, vX_53, gX_50_1, gX_50_2, m, t2, show ¬ tx.length ≤ a by omega, he, p1]
    · refine ⟨h0, fun R => ?_, ChX.refl s, by rw [skp_no ha q]; exact ⟨by omega, m⟩⟩
      rw [e81_0]
      simp (disch := first | assumption | omega) only [e81_1, e81_4, e81_5, e81_8, e81_11, e81_12, e81_15, e81_17, e81_20, e81_21, e81_22, e81_25, e81_26, e81_27, e81_30, e81_33, m81, ↓reduceIte, qg_0, qg_1, qg_2, qg_3, qg_4, qg_5, qg_6, qg_7, qg_8, qg_9, qg_10, qg_11, qg_12, qg_13, not_true_eq_false, not_false_eq_true, Nat.reduceBEq, Bool.false_eq_true, ex1, ex3, ex4, exF, qfit_i, qfit_l, qfit_r, qfit_n, qfit_b0, qfit_b1, qcat_i, qcat_r, qcat_n, qcat_l, qroom_0, qroom_c, List.map_cons, List.map_nil, List.sum_cons, List.sum_nil, Nat.reduceAdd, Nat.reduceMul, Nat.reduceLT, Nat.reduceLeDiff, Nat.reduceEqDiff, Nat.reduceSub, decide_true, true_and, and_true, and_self, if_true, if_false, Option.toList_some, Option.toList_none, List.cons_append, List.nil_append, qsL, qlong, List.length_cons, List.length_nil, iN_L, exI, iN_add, iN_mul, iN_le, iN_lt, iN_eq, Nat.le_refl, qfN0, qfN1, uX_16, vX_16, uX_19, vX_19, uX_27, vX_27, uX_30, vX_30, uX_39, vX_39, uX_41, vX_41, uX_43, vX_43, uX_46, vX_46, uX_50, vX_50, uX_53, vX_53, gX_50_1, gX_50_2, m, t2, show ¬ tx.length ≤ a by omega, he, q]
theorem x_skips {a : Nat} (s : ShX h) (t : TxX h tx) (v : AtX h tx a) : ∃ h', (∀ R, qMC (d + 2) 81 [.ref 50] h R ↔ R = (none, h')) ∧ ChX [] [(50, 2)] 0 h h' ∧ AtX h' tx (skp tx a) := by
  obtain ⟨h', r', z'⟩ := x_skip (d := d) (tx.length - a) a h s t (by have := v.1; omega) v.2
  refine ⟨h', fun R => ?_, z'⟩
  rw [← r' R]
  simp (disch := first | assumption | omega) only [e81_1, e81_4, e81_5, e81_8, e81_11, e81_12, e81_15, e81_17, e81_20, e81_21, e81_22, e81_25, e81_26, e81_27, e81_30, e81_33, m81, ↓reduceIte, qg_0, qg_1, qg_2, qg_3, qg_4, qg_5, qg_6, qg_7, qg_8, qg_9, qg_10, qg_11, qg_12, qg_13, not_true_eq_false, not_false_eq_true, Nat.reduceBEq, Bool.false_eq_true, ex1, ex3, ex4, exF, qfit_i, qfit_l, qfit_r, qfit_n, qfit_b0, qfit_b1, qcat_i, qcat_r, qcat_n, qcat_l, qroom_0, qroom_c, List.map_cons, List.map_nil, List.sum_cons, List.sum_nil, Nat.reduceAdd, Nat.reduceMul, Nat.reduceLT, Nat.reduceLeDiff, Nat.reduceEqDiff, Nat.reduceSub, decide_true, true_and, and_true, and_self, if_true, if_false, Option.toList_some, Option.toList_none, List.cons_append, List.nil_append, qsL, qlong, List.length_cons, List.length_nil, iN_L, exI, iN_add, iN_mul, iN_le, iN_lt, iN_eq, Nat.le_refl, qfN0, qfN1, uX_16, vX_16, uX_19, vX_19, uX_27, vX_27, uX_30, vX_30, uX_39, vX_39, uX_41, vX_41, uX_43, vX_43, uX_46, vX_46, uX_50, vX_50, uX_53, vX_53]
set_option maxRecDepth 100000 in
theorem x_fail {k p : Nat} {f : Option pFl} (s : ShX h) (v : FtX h f) (hk : 1 ≤ k ∧ k ≤ 3) : ∃ h', (∀ R, qMC (d + 1) 79 [.ref 50, .int (iN k), .int (iN p)] h R ↔ R = (none, h')) ∧ ChX [] [(50, 6), (50, 7)] 0 h h' ∧ FtX h' (f.or (some (k, p))) := by
  cases f with
  | none =>
    obtain ⟨h1, e1⟩ : ∃ h1, h1 = xV h 50 6 (.int (iN k)) := ⟨_, rfl⟩
    have p1 : qput h 50 6 6 (.int (iN k)) = some h1 := by rw [e1]; exact pX_50_6 s
    have c1 : ChX [] [(50, 6), (50, 7)] 0 h h1 := by rw [e1]; exact ChX.setI s (by decide) (by decide)
    have s1 := c1.sh
    obtain ⟨h2, e2⟩ : ∃ h2, h2 = xV h1 50 7 (.int (iN p)) := ⟨_, rfl⟩
    have p2 : qput h1 50 6 7 (.int (iN p)) = some h2 := by rw [e2]; exact pX_50_7 s1
    have m := v.1
    refine ⟨h2, fun R => ?_, c1.trans0 (by rw [e2]; exact ChX.setI s1 (by decide) (by decide)), ⟨hk, by rw [e2, xi_xV, if_neg (by decide), e1, xi_xV, if_pos ⟨rfl, rfl⟩], by rw [e2, xi_xV, if_pos ⟨rfl, rfl⟩]⟩⟩
    simp (disch := first | assumption | omega) only [e79_0, e79_1, e79_4, e79_7, e79_8, e79_9, e79_12, e79_13, e79_14, e79_17, m79, ↓reduceIte, qg_0, qg_1, qg_2, qg_3, qg_4, qg_5, qg_6, qg_7, qg_8, qg_9, qg_10, qg_11, qg_12, qg_13, not_true_eq_false, not_false_eq_true, Nat.reduceBEq, Bool.false_eq_true, ex1, ex3, ex4, exF, qfit_i, qfit_l, qfit_r, qfit_n, qfit_b0, qfit_b1, qcat_i, qcat_r, qcat_n, qcat_l, qroom_0, qroom_c, List.map_cons, List.map_nil, List.sum_cons, List.sum_nil, Nat.reduceAdd, Nat.reduceMul, Nat.reduceLT, Nat.reduceLeDiff, Nat.reduceEqDiff, Nat.reduceSub, decide_true, true_and, and_true, and_self, if_true, if_false, Option.toList_some, Option.toList_none, List.cons_append, List.nil_append, qsL, qlong, List.length_cons, List.length_nil, iN_L, exI, iN_add, iN_mul, iN_le, iN_lt, iN_eq, Nat.le_refl, qfN0, qfN1, uX_16, vX_16, uX_19, vX_19, uX_27, vX_27, uX_30, vX_30, uX_39, vX_39, uX_41, vX_41, uX_43, vX_43, uX_46, vX_46, uX_50, vX_50, uX_53, vX_53, gX_50_6, m, p1, p2]
  | some f =>
    obtain ⟨v1, v2, v3⟩ := v
    refine ⟨h, fun R => ?_, ChX.refl s, ⟨v1, v2, v3⟩⟩
    simp (disch := first | assumption | omega) only [e79_0, e79_1, e79_4, e79_7, e79_8, e79_9, e79_12, e79_13, e79_14, e79_17, m79, ↓reduceIte, qg_0, qg_1, qg_2, qg_3, qg_4, qg_5, qg_6, qg_7, qg_8, qg_9, qg_10, qg_11, qg_12, qg_13, not_true_eq_false, not_false_eq_true, Nat.reduceBEq, Bool.false_eq_true, ex1, ex3, ex4, exF, qfit_i, qfit_l, qfit_r, qfit_n, qfit_b0, qfit_b1, qcat_i, qcat_r, qcat_n, qcat_l, qroom_0, qroom_c, List.map_cons, List.map_nil, List.sum_cons, List.sum_nil, Nat.reduceAdd, Nat.reduceMul, Nat.reduceLT, Nat.reduceLeDiff, Nat.reduceEqDiff, Nat.reduceSub, decide_true, true_and, and_true, and_self, if_true, if_false, Option.toList_some, Option.toList_none, List.cons_append, List.nil_append, qsL, qlong, List.length_cons, List.length_nil, iN_L, exI, iN_add, iN_mul, iN_le, iN_lt, iN_eq, Nat.le_refl, qfN0, qfN1, uX_16, vX_16, uX_19, vX_19, uX_27, vX_27, uX_30, vX_30, uX_39, vX_39, uX_41, vX_41, uX_43, vX_43, uX_46, vX_46, uX_50, vX_50, uX_53, vX_53, gX_50_6, v2, show ¬ f.1 = 0 by omega]
set_option maxRecDepth 100000 in
set_option maxHeartbeats 32000000 in
theorem x_passWord {a k : Nat} {w : List Nat} (s : ShX h) (t : TxX h tx) (v : AtX h tx a) (hk : 1 ≤ k ∧ k ≤ 8) (hl : qsln k = w.length) (h8 : w.length ≤ 8) (hw : ∀ j, j < w.length → qsch k j = iN (w.getD j 0) ∧ w.getD j 0 < 256) : ∃ h', (∀ R, qMC (d + 3) 82 [.ref 50, .ref k] h R ↔ R = (some (.int (if wdE tx (skp tx a) = w then iN 1 else iN 0)), h')) ∧ ChX [] [(50, 2)] 0 h h' ∧ AtX h' tx (if wdE tx (skp tx a) = w then skp tx a + w.length else skp tx a) := by
  obtain ⟨h1, r1, c1, v1, m1'⟩ := x_skips (d := d) s t v
  have s1 := c1.sh
  obtain ⟨t1, t2, t3⟩ := t.ch c1 s (by intro z; cases z) (by decide)
  obtain ⟨b, eb⟩ : ∃ b, b = skp tx a := ⟨_, rfl⟩
  rw [← eb] at v1 m1' ⊢
  have rd : ∀ j, j < tx.length → qiald h1 51 (iN j) = some (iN (tx.getD j 0)) := fun j hj => by rw [rX_51 s1 (by omega), (t3 j hj).1]
  obtain ⟨W, eW⟩ : ∃ W, W = wdE tx b := ⟨_, rfl⟩
  rw [← eW]
  have run : ∀ (n e : Nat), e + n = tx.length → b ≤ e → b + W.length = e + (tkE isLt tx e).length → (∀ R, qEv (d + 2) 3 qk_82 9 [some (.ref 50), some (.ref k), some (.int (iN e)), none] [] h1 R ↔ qEv (d + 2) 3 qk_82 45 [some (.ref 50), some (.ref k), some (.int (iN (b + W.length))), none] [] h1 R) := by
    intro n
    induction n with
    | zero =>
      intro e he hb hE R
      have : b + W.length = e := by rw [hE, tk_end (by omega)]; rfl
      rw [this, e82_9]
      simp (disch := first | assumption | omega) only [e82_0, e82_1, e82_4, e82_5, e82_8, e82_10, e82_11, e82_14, e82_17, e82_18, e82_21, e82_22, e82_23, e82_25, e82_28, e82_29, e82_32, e82_33, e82_34, e82_36, e82_39, e82_42, e82_46, e82_47, e82_50, e82_51, e82_52, e82_55, e82_58, e82_59, e82_60, e82_61, e82_62, e82_63, e82_64, e82_67, e82_70, e82_71, e82_74, e82_75, e82_78, e82_79, e82_80, e82_81, e82_82, e82_83, e82_86, e82_89, e82_90, e82_91, e82_94, e82_97, e82_98, e82_99, e82_102, e82_103, m82, ↓reduceIte, qg_0, qg_1, qg_2, qg_3, qg_4, qg_5, qg_6, qg_7, qg_8, qg_9, qg_10, qg_11, qg_12, qg_13, not_true_eq_false, not_false_eq_true, Nat.reduceBEq, Bool.false_eq_true, ex1, ex3, ex4, exF, qfit_i, qfit_l, qfit_r, qfit_n, qfit_b0, qfit_b1, qcat_i, qcat_r, qcat_n, qcat_l, qroom_0, qroom_c, List.map_cons, List.map_nil, List.sum_cons, List.sum_nil, Nat.reduceAdd, Nat.reduceMul, Nat.reduceLT, Nat.reduceLeDiff, Nat.reduceEqDiff, Nat.reduceSub, decide_true, true_and, and_true, and_self, if_true, if_false, Option.toList_some, Option.toList_none, List.cons_append, List.nil_append, qsL, qlong, List.length_cons, List.length_nil, iN_L, exI, iN_add, iN_mul, iN_le, iN_lt, iN_eq, Nat.le_refl, qfN0, qfN1, uX_16, vX_16, uX_19, vX_19, uX_27, vX_27, uX_30, vX_30, uX_39, vX_39, uX_41, vX_41, uX_43, vX_43, uX_46, vX_46, uX_50, vX_50, uX_53, vX_53, gX_50_1, t2, show tx.length ≤ e by omega]
    | succ n ih =>
      intro e he hb hE R
      have hel : e < tx.length := by omega
      have r := rd e hel
      have lt := (t3 e hel).2
      by_cases q : isLt (tx.getD e 0) = true
      · have q' := of_decide_eq_true q
        rw [tk_in hel q, List.length_cons] at hE
        rw [← ih (e + 1) (by omega) (by omega) (by omega) R, e82_9]
        simp (disch := first | assumption | omega) only [e82_0, e82_1, e82_4, e82_5, e82_8, e82_10, e82_11, e82_14, e82_17, e82_18, e82_21, e82_22, e82_23, e82_25, e82_28, e82_29, e82_32, e82_33, e82_34, e82_36, e82_39, e82_42, e82_46, e82_47, e82_50, e82_51, e82_52, e82_55, e82_58, e82_59, e82_60, e82_61, e82_62, e82_63, e82_64, e82_67, e82_70, e82_71, e82_74, e82_75, e82_78, e82_79, e82_80, e82_81, e82_82, e82_83, e82_86, e82_89, e82_90, e82_91, e82_94, e82_97, e82_98, e82_99, e82_102, e82_103, m82, ↓reduceIte, qg_0, qg_1, qg_2, qg_3, qg_4, qg_5, qg_6, qg_7, qg_8, qg_9, qg_10, qg_11, qg_12, qg_13, not_true_eq_false, not_false_eq_true, Nat.reduceBEq, Bool.false_eq_true, ex1, ex3, ex4, exF, qfit_i, qfit_l, qfit_r, qfit_n, qfit_b0, qfit_b1, qcat_i, qcat_r, qcat_n, qcat_l, qroom_0, qroom_c, List.map_cons, List.map_nil, List.sum_cons, List.sum_nil, Nat.reduceAdd, Nat.reduceMul, Nat.reduceLT, Nat.reduceLeDiff, Nat.reduceEqDiff, Nat.reduceSub, decide_true, true_and, and_true, and_self, if_true, if_false, Option.toList_some, Option.toList_none, List.cons_append, List.nil_append, qsL, qlong, List.length_cons, List.length_nil, iN_L, exI, iN_add, iN_mul, iN_le, iN_lt, iN_eq, Nat.le_refl, qfN0, qfN1, uX_16, vX_16, uX_19, vX_19, uX_27, vX_27, uX_30, vX_30, uX_39, vX_39, uX_41, vX_41, uX_43, vX_43, uX_46, vX_46, uX_50, vX_50, uX_53, vX_53, gX_50_1, t2, show ¬ tx.length ≤ e by omega, gX_50_0, r, show ¬ tx.getD e 0 < 97 by omega, show ¬ 122 < tx.getD e 0 by omega, show 97 ≤ tx.getD e 0 by omega, show tx.getD e 0 ≤ 122 by omega]
      · have : b + W.length = e := by rw [hE, tk_no hel q]; rfl
        have q' : ¬ (97 ≤ tx.getD e 0 ∧ tx.getD e 0 ≤ 122) := fun z => q (decide_eq_true z)
        rw [this, e82_9]
        by_cases q1 : 97 ≤ tx.getD e 0
        · simp (disch := first | assumption | omega) only [e82_0, e82_1, e82_4, e82_5, e82_8, e82_10, e82_11, e82_14, e82_17, e82_18, e82_21, e82_22, e82_23, e82_25, e82_28, e82_29, e82_32, e82_33, e82_34, e82_36, e82_39, e82_42, e82_46, e82_47, e82_50, e82_51, e82_52, e82_55, e82_58, e82_59, e82_60, e82_61, e82_62, e82_63, e82_64, e82_67, e82_70, e82_71, e82_74, e82_75, e82_78, e82_79, e82_80, e82_81, e82_82, e82_83, e82_86, e82_89, e82_90, e82_91, e82_94, e82_97, e82_98, e82_99, e82_102, e82_103, m82, ↓reduceIte, qg_0, qg_1, qg_2, qg_3, qg_4, qg_5, qg_6, qg_7, qg_8, qg_9, qg_10, qg_11, qg_12, qg_13, not_true_eq_false, not_false_eq_true, Nat.reduceBEq, Bool.false_eq_true, ex1, ex3, ex4, exF, qfit_i, qfit_l, qfit_r, qfit_n, qfit_b0, qfit_b1, qcat_i, qcat_r, qcat_n, qcat_l, qroom_0, qroom_c, List.map_cons, List.map_nil, List.sum_cons, List.sum_nil, Nat.reduceAdd, Nat.reduceMul, Nat.reduceLT, Nat.reduceLeDiff, Nat.reduceEqDiff, Nat.reduceSub, decide_true, true_and, and_true, and_self, if_true, if_false, Option.toList_some, Option.toList_none, List.cons_append, List.nil_append, qsL, qlong, List.length_cons, List.length_nil, iN_L, exI, iN_add, iN_mul, iN_le, iN_lt, iN_eq, Nat.le_refl, qfN0, qfN1, uX_16, vX_16, uX_19, vX_19, uX_27, vX_27, uX_30, vX_30, uX_39, vX_39, uX_41, vX_41, uX_43, vX_43, uX_46, vX_46, uX_50, vX_50, uX_53, vX_53, gX_50_1, t2, show ¬ tx.length ≤ e by omega, gX_50_0, r, show ¬ tx.getD e 0 < 97 by omega, show 122 < tx.getD e 0 by omega, q1, show ¬ tx.getD e 0 ≤ 122 by omega]
        · simp (disch := first | assumption | omega) only [e82_0, e82_1, e82_4, e82_5, e82_8, e82_10, e82_11, e82_14, e82_17, e82_18, e82_21, e82_22, e82_23, e82_25, e82_28, e82_29, e82_32, e82_33, e82_34, e82_36, e82_39, e82_42, e82_46, e82_47, e82_50, e82_51, e82_52, e82_55, e82_58, e82_59, e82_60, e82_61, e82_62, e82_63, e82_64, e82_67, e82_70, e82_71, e82_74, e82_75, e82_78, e82_79, e82_80, e82_81, e82_82, e82_83, e82_86, e82_89, e82_90, e82_91, e82_94, e82_97, e82_98, e82_99, e82_102, e82_103, m82, ↓reduceIte, qg_0, qg_1, qg_2, qg_3, qg_4, qg_5, qg_6, qg_7, qg_8, qg_9, qg_10, qg_11, qg_12, qg_13, not_true_eq_false, not_false_eq_true, Nat.reduceBEq, Bool.false_eq_true, ex1, ex3, ex4, exF, qfit_i, qfit_l, qfit_r, qfit_n, qfit_b0, qfit_b1, qcat_i, qcat_r, qcat_n, qcat_l, qroom_0, qroom_c, List.map_cons, List.map_nil, List.sum_cons, List.sum_nil, Nat.reduceAdd, Nat.reduceMul, Nat.reduceLT, Nat.reduceLeDiff, Nat.reduceEqDiff, Nat.reduceSub, decide_true, true_and, and_true, and_self, if_true, if_false, Option.toList_some, Option.toList_none, List.cons_append, List.nil_append, qsL, qlong, List.length_cons, List.length_nil, iN_L, exI, iN_add, iN_mul, iN_le, iN_lt, iN_eq, Nat.le_refl, qfN0, qfN1, uX_16, vX_16, uX_19, vX_19, uX_27, vX_27, uX_30, vX_30, uX_39, vX_39, uX_41, vX_41, uX_43, vX_43, uX_46, vX_46, uX_50, vX_50, uX_53, vX_53, gX_50_1, t2, show ¬ tx.length ≤ e by omega, gX_50_0, r, show tx.getD e 0 < 97 by omega, q1]
  have Wl : b + W.length ≤ tx.length := by rw [eW]; exact tk_le v1
  have Wg : ∀ j, j < W.length → W.getD j 0 = tx.getD (b + j) 0 := fun j hj => by
    rw [eW] at hj ⊢
    obtain ⟨t', e⟩ := List.takeWhile_prefix isLt (l := tx.drop b)
    have e1 : ((tx.drop b).takeWhile isLt ++ t')[j]? = (tx.drop b)[j]? := congrArg (fun l => l[j]?) e
    have hj' : j < ((tx.drop b).takeWhile isLt).length := hj
    rw [List.getElem?_append_left hj', List.getElem?_drop] at e1
    unfold wdE tkE
    rw [List.getD_eq_getElem?_getD, List.getD_eq_getElem?_getD, e1]
  have r0 : ∀ R, qMC (d + 3) 82 [.ref 50, .ref k] h R ↔ qEv (d + 2) 3 qk_82 45 [some (.ref 50), some (.ref k), some (.int (iN (b + W.length))), none] [] h1 R := fun R => by
    rw [← run (tx.length - b) b (by have := v1; omega) (Nat.le_refl _) (by rw [eW]; rfl) R]
    simp (disch := first | assumption | omega) only [e82_0, e82_1, e82_4, e82_5, e82_8, e82_10, e82_11, e82_14, e82_17, e82_18, e82_21, e82_22, e82_23, e82_25, e82_28, e82_29, e82_32, e82_33, e82_34, e82_36, e82_39, e82_42, e82_46, e82_47, e82_50, e82_51, e82_52, e82_55, e82_58, e82_59, e82_60, e82_61, e82_62, e82_63, e82_64, e82_67, e82_70, e82_71, e82_74, e82_75, e82_78, e82_79, e82_80, e82_81, e82_82, e82_83, e82_86, e82_89, e82_90, e82_91, e82_94, e82_97, e82_98, e82_99, e82_102, e82_103, m82, ↓reduceIte, qg_0, qg_1, qg_2, qg_3, qg_4, qg_5, qg_6, qg_7, qg_8, qg_9, qg_10, qg_11, qg_12, qg_13, not_true_eq_false, not_false_eq_true, Nat.reduceBEq, Bool.false_eq_true, ex1, ex3, ex4, exF, qfit_i, qfit_l, qfit_r, qfit_n, qfit_b0, qfit_b1, qcat_i, qcat_r, qcat_n, qcat_l, qroom_0, qroom_c, List.map_cons, List.map_nil, List.sum_cons, List.sum_nil, Nat.reduceAdd, Nat.reduceMul, Nat.reduceLT, Nat.reduceLeDiff, Nat.reduceEqDiff, Nat.reduceSub, decide_true, true_and, and_true, and_self, if_true, if_false, Option.toList_some, Option.toList_none, List.cons_append, List.nil_append, qsL, qlong, List.length_cons, List.length_nil, iN_L, exI, iN_add, iN_mul, iN_le, iN_lt, iN_eq, Nat.le_refl, qfN0, qfN1, uX_16, vX_16, uX_19, vX_19, uX_27, vX_27, uX_30, vX_30, uX_39, vX_39, uX_41, vX_41, uX_43, vX_43, uX_46, vX_46, uX_50, vX_50, uX_53, vX_53, r1, gX_50_2, m1']
  have e1 : iN (b + W.length) - iN b = iN W.length := by rw [iN_sub (by omega), Nat.add_sub_cancel_left]
  have en : Int32.ofNat w.length = iN w.length := rfl
  by_cases z : W = w
  · rw [if_pos z, if_pos z]
    subst z
    obtain ⟨h2, e2⟩ : ∃ h2, h2 = xV h1 50 2 (.int (iN (b + W.length))) := ⟨_, rfl⟩
    have p2 : qput h1 50 6 2 (.int (iN (b + W.length))) = some h2 := by rw [e2]; exact pX_50_2 s1
    have c2 : ChX [] [(50, 2)] 0 h1 h2 := by rw [e2]; exact ChX.setI s1 (by decide) (by decide)
    have go : ∀ (n j : Nat), j + n = W.length → ∀ R, (qEv (d + 2) 3 qk_82 62 [some (.ref 50), some (.ref k), some (.int (iN (b + W.length))), some (.int (iN j))] [] h1 R ↔ R = (some (.int (iN 1)), h2)) := by
      intro n
      induction n with
      | zero =>
        intro j hj R
        have ej : j = W.length := by omega
        rw [e82_62]
        simp (disch := first | assumption | omega) only [e82_0, e82_1, e82_4, e82_5, e82_8, e82_10, e82_11, e82_14, e82_17, e82_18, e82_21, e82_22, e82_23, e82_25, e82_28, e82_29, e82_32, e82_33, e82_34, e82_36, e82_39, e82_42, e82_46, e82_47, e82_50, e82_51, e82_52, e82_55, e82_58, e82_59, e82_60, e82_61, e82_63, e82_64, e82_67, e82_70, e82_71, e82_74, e82_75, e82_78, e82_79, e82_80, e82_81, e82_82, e82_83, e82_86, e82_89, e82_90, e82_91, e82_94, e82_97, e82_98, e82_99, e82_102, e82_103, m82, ↓reduceIte, qg_0, qg_1, qg_2, qg_3, qg_4, qg_5, qg_6, qg_7, qg_8, qg_9, qg_10, qg_11, qg_12, qg_13, not_true_eq_false, not_false_eq_true, Nat.reduceBEq, Bool.false_eq_true, ex1, ex3, ex4, exF, qfit_i, qfit_l, qfit_r, qfit_n, qfit_b0, qfit_b1, qcat_i, qcat_r, qcat_n, qcat_l, qroom_0, qroom_c, List.map_cons, List.map_nil, List.sum_cons, List.sum_nil, Nat.reduceAdd, Nat.reduceMul, Nat.reduceLT, Nat.reduceLeDiff, Nat.reduceEqDiff, Nat.reduceSub, decide_true, true_and, and_true, and_self, if_true, if_false, Option.toList_some, Option.toList_none, List.cons_append, List.nil_append, qsL, qlong, List.length_cons, List.length_nil, iN_L, exI, iN_add, iN_mul, iN_le, iN_lt, iN_eq, Nat.le_refl, qfN0, qfN1, uX_16, vX_16, uX_19, vX_19, uX_27, vX_27, uX_30, vX_30, uX_39, vX_39, uX_41, vX_41, uX_43, vX_43, uX_46, vX_46, uX_50, vX_50, uX_53, vX_53, hk.1, hk.2, hl, en, Nat.not_lt_zero, show W.length ≤ j by omega, p2, iN10]
      | succ n ih =>
        intro j hj R
        have hjw : j < W.length := by omega
        have r := rd (b + j) (by omega)
        have lt := (t3 (b + j) (by omega)).2
        have ch := (hw j hjw).1
        rw [Wg j hjw] at ch
        have ej : (iN j).toNatClampNeg = j := iN_nat (by omega)
        have nz : ¬ ((iN j) < (0 : Int32)) := by rw [show (0 : Int32) = iN 0 from rfl, iN_lt (by omega) (by omega)]; omega
        rw [← ih (j + 1) (by omega) R, e82_62]
        simp (disch := first | assumption | omega) only [e82_0, e82_1, e82_4, e82_5, e82_8, e82_10, e82_11, e82_14, e82_17, e82_18, e82_21, e82_22, e82_23, e82_25, e82_28, e82_29, e82_32, e82_33, e82_34, e82_36, e82_39, e82_42, e82_46, e82_47, e82_50, e82_51, e82_52, e82_55, e82_58, e82_59, e82_60, e82_61, e82_63, e82_64, e82_67, e82_70, e82_71, e82_74, e82_75, e82_78, e82_79, e82_80, e82_81, e82_82, e82_83, e82_86, e82_89, e82_90, e82_91, e82_94, e82_97, e82_98, e82_99, e82_102, e82_103, m82, ↓reduceIte, qg_0, qg_1, qg_2, qg_3, qg_4, qg_5, qg_6, qg_7, qg_8, qg_9, qg_10, qg_11, qg_12, qg_13, not_true_eq_false, not_false_eq_true, Nat.reduceBEq, Bool.false_eq_true, ex1, ex3, ex4, exF, qfit_i, qfit_l, qfit_r, qfit_n, qfit_b0, qfit_b1, qcat_i, qcat_r, qcat_n, qcat_l, qroom_0, qroom_c, List.map_cons, List.map_nil, List.sum_cons, List.sum_nil, Nat.reduceAdd, Nat.reduceMul, Nat.reduceLT, Nat.reduceLeDiff, Nat.reduceEqDiff, Nat.reduceSub, decide_true, true_and, and_true, and_self, if_true, if_false, Option.toList_some, Option.toList_none, List.cons_append, List.nil_append, qsL, qlong, List.length_cons, List.length_nil, iN_L, exI, iN_add, iN_mul, iN_le, iN_lt, iN_eq, Nat.le_refl, qfN0, qfN1, uX_16, vX_16, uX_19, vX_19, uX_27, vX_27, uX_30, vX_30, uX_39, vX_39, uX_41, vX_41, uX_43, vX_43, uX_46, vX_46, uX_50, vX_50, uX_53, vX_53, hk.1, hk.2, hl, en, Nat.not_lt_zero, show ¬ W.length ≤ j by omega, gX_50_0, gX_50_2, m1', r, ej, nz, or_self, ch]
    refine ⟨h2, fun R => ?_, c1.trans0 c2, by omega, by rw [e2, xi_xV, if_pos ⟨rfl, rfl⟩]⟩
    rw [r0 R, ← go W.length 0 (by omega) R, e82_45]
    simp (disch := first | assumption | omega) only [e82_0, e82_1, e82_4, e82_5, e82_8, e82_10, e82_11, e82_14, e82_17, e82_18, e82_21, e82_22, e82_23, e82_25, e82_28, e82_29, e82_32, e82_33, e82_34, e82_36, e82_39, e82_42, e82_46, e82_47, e82_50, e82_51, e82_52, e82_55, e82_58, e82_59, e82_60, e82_61, e82_63, e82_64, e82_67, e82_70, e82_71, e82_74, e82_75, e82_78, e82_79, e82_80, e82_81, e82_82, e82_83, e82_86, e82_89, e82_90, e82_91, e82_94, e82_97, e82_98, e82_99, e82_102, e82_103, m82, ↓reduceIte, qg_0, qg_1, qg_2, qg_3, qg_4, qg_5, qg_6, qg_7, qg_8, qg_9, qg_10, qg_11, qg_12, qg_13, not_true_eq_false, not_false_eq_true, Nat.reduceBEq, Bool.false_eq_true, ex1, ex3, ex4, exF, qfit_i, qfit_l, qfit_r, qfit_n, qfit_b0, qfit_b1, qcat_i, qcat_r, qcat_n, qcat_l, qroom_0, qroom_c, List.map_cons, List.map_nil, List.sum_cons, List.sum_nil, Nat.reduceAdd, Nat.reduceMul, Nat.reduceLT, Nat.reduceLeDiff, Nat.reduceEqDiff, Nat.reduceSub, decide_true, true_and, and_true, and_self, if_true, if_false, Option.toList_some, Option.toList_none, List.cons_append, List.nil_append, qsL, qlong, List.length_cons, List.length_nil, iN_L, exI, iN_add, iN_mul, iN_le, iN_lt, iN_eq, Nat.le_refl, qfN0, qfN1, uX_16, vX_16, uX_19, vX_19, uX_27, vX_27, uX_30, vX_30, uX_39, vX_39, uX_41, vX_41, uX_43, vX_43, uX_46, vX_46, uX_50, vX_50, uX_53, vX_53, gX_50_2, m1', e1, hk.1, hk.2, hl, en]
  · rw [if_neg z, if_neg z]
    refine ⟨h1, fun R => ?_, c1, v1, m1'⟩
    rw [r0 R]
    by_cases zl : W.length = w.length
    · have go : ∀ (n j : Nat), j + n = w.length → (∀ i, i < j → W.getD i 0 = w.getD i 0) → ∀ R, (qEv (d + 2) 3 qk_82 62 [some (.ref 50), some (.ref k), some (.int (iN (b + W.length))), some (.int (iN j))] [] h1 R ↔ R = (some (.int (iN 0)), h1)) := by
        intro n
        induction n with
        | zero =>
          intro j hj hall R
          refine absurd (List.ext_getElem zl fun i h1 h2 => ?_) z
          have := hall i (by omega)
          rw [List.getD_eq_getElem?_getD, List.getD_eq_getElem?_getD, List.getElem?_eq_getElem h1, List.getElem?_eq_getElem h2] at this
          exact this
        | succ n ih =>
          intro j hj hall R
          have hjw : j < w.length := by omega
          have r := rd (b + j) (by omega)
          have lt := (t3 (b + j) (by omega)).2
          obtain ⟨ch, w256⟩ := hw j hjw
          have ej : (iN j).toNatClampNeg = j := iN_nat (by omega)
          have nz : ¬ ((iN j) < (0 : Int32)) := by rw [show (0 : Int32) = iN 0 from rfl, iN_lt (by omega) (by omega)]; omega
          have g := Wg j (by omega)
          by_cases q : tx.getD (b + j) 0 = w.getD j 0
          · rw [← q] at ch
            rw [← ih (j + 1) (by omega) (fun i hi' => by
              rcases Nat.lt_or_ge i j with y | y
              · exact hall i y
              · rw [show i = j by omega, g, q]) R, e82_62]
            simp (disch := first | assumption | omega) only [e82_0, e82_1, e82_4, e82_5, e82_8, e82_10, e82_11, e82_14, e82_17, e82_18, e82_21, e82_22, e82_23, e82_25, e82_28, e82_29, e82_32, e82_33, e82_34, e82_36, e82_39, e82_42, e82_46, e82_47, e82_50, e82_51, e82_52, e82_55, e82_58, e82_59, e82_60, e82_61, e82_63, e82_64, e82_67, e82_70, e82_71, e82_74, e82_75, e82_78, e82_79, e82_80, e82_81, e82_82, e82_83, e82_86, e82_89, e82_90, e82_91, e82_94, e82_97, e82_98, e82_99, e82_102, e82_103, m82, ↓reduceIte, qg_0, qg_1, qg_2, qg_3, qg_4, qg_5, qg_6, qg_7, qg_8, qg_9, qg_10, qg_11, qg_12, qg_13, not_true_eq_false, not_false_eq_true, Nat.reduceBEq, Bool.false_eq_true, ex1, ex3, ex4, exF, qfit_i, qfit_l, qfit_r, qfit_n, qfit_b0, qfit_b1, qcat_i, qcat_r, qcat_n, qcat_l, qroom_0, qroom_c, List.map_cons, List.map_nil, List.sum_cons, List.sum_nil, Nat.reduceAdd, Nat.reduceMul, Nat.reduceLT, Nat.reduceLeDiff, Nat.reduceEqDiff, Nat.reduceSub, decide_true, true_and, and_true, and_self, if_true, if_false, Option.toList_some, Option.toList_none, List.cons_append, List.nil_append, qsL, qlong, List.length_cons, List.length_nil, iN_L, exI, iN_add, iN_mul, iN_le, iN_lt, iN_eq, Nat.le_refl, qfN0, qfN1, uX_16, vX_16, uX_19, vX_19, uX_27, vX_27, uX_30, vX_30, uX_39, vX_39, uX_41, vX_41, uX_43, vX_43, uX_46, vX_46, uX_50, vX_50, uX_53, vX_53, hk.1, hk.2, hl, en, Nat.not_lt_zero, show ¬ w.length ≤ j by omega, gX_50_0, gX_50_2, m1', r, ej, nz, or_self, ch]
          · rw [e82_62]
            simp (disch := first | assumption | omega) only [e82_0, e82_1, e82_4, e82_5, e82_8, e82_10, e82_11, e82_14, e82_17, e82_18, e82_21, e82_22, e82_23, e82_25, e82_28, e82_29, e82_32, e82_33, e82_34, e82_36, e82_39, e82_42, e82_46, e82_47, e82_50, e82_51, e82_52, e82_55, e82_58, e82_59, e82_60, e82_61, e82_63, e82_64, e82_67, e82_70, e82_71, e82_74, e82_75, e82_78, e82_79, e82_80, e82_81, e82_82, e82_83, e82_86, e82_89, e82_90, e82_91, e82_94, e82_97, e82_98, e82_99, e82_102, e82_103, m82, ↓reduceIte, qg_0, qg_1, qg_2, qg_3, qg_4, qg_5, qg_6, qg_7, qg_8, qg_9, qg_10, qg_11, qg_12, qg_13, not_true_eq_false, not_false_eq_true, Nat.reduceBEq, Bool.false_eq_true, ex1, ex3, ex4, exF, qfit_i, qfit_l, qfit_r, qfit_n, qfit_b0, qfit_b1, qcat_i, qcat_r, qcat_n, qcat_l, qroom_0, qroom_c, List.map_cons, List.map_nil, List.sum_cons, List.sum_nil, Nat.reduceAdd, Nat.reduceMul, Nat.reduceLT, Nat.reduceLeDiff, Nat.reduceEqDiff, Nat.reduceSub, decide_true, true_and, and_true, and_self, if_true, if_false, Option.toList_some, Option.toList_none, List.cons_append, List.nil_append, qsL, qlong, List.length_cons, List.length_nil, iN_L, exI, iN_add, iN_mul, iN_le, iN_lt, iN_eq, Nat.le_refl, qfN0, qfN1, uX_16, vX_16, uX_19, vX_19, uX_27, vX_27, uX_30, vX_30, uX_39, vX_39, uX_41, vX_41, uX_43, vX_43, uX_46, vX_46, uX_50, vX_50, uX_53, vX_53, hk.1, hk.2, hl, en, Nat.not_lt_zero, show ¬ w.length ≤ j by omega, gX_50_0, gX_50_2, m1', r, ej, nz, or_self, ch, q]
      rw [← go w.length 0 (by omega) (fun i hi' => absurd hi' (Nat.not_lt_zero i)) R, e82_45]
      simp (disch := first | assumption | omega) only [e82_0, e82_1, e82_4, e82_5, e82_8, e82_10, e82_11, e82_14, e82_17, e82_18, e82_21, e82_22, e82_23, e82_25, e82_28, e82_29, e82_32, e82_33, e82_34, e82_36, e82_39, e82_42, e82_46, e82_47, e82_50, e82_51, e82_52, e82_55, e82_58, e82_59, e82_60, e82_61, e82_63, e82_64, e82_67, e82_70, e82_71, e82_74, e82_75, e82_78, e82_79, e82_80, e82_81, e82_82, e82_83, e82_86, e82_89, e82_90, e82_91, e82_94, e82_97, e82_98, e82_99, e82_102, e82_103, m82, ↓reduceIte, qg_0, qg_1, qg_2, qg_3, qg_4, qg_5, qg_6, qg_7, qg_8, qg_9, qg_10, qg_11, qg_12, qg_13, not_true_eq_false, not_false_eq_true, Nat.reduceBEq, Bool.false_eq_true, ex1, ex3, ex4, exF, qfit_i, qfit_l, qfit_r, qfit_n, qfit_b0, qfit_b1, qcat_i, qcat_r, qcat_n, qcat_l, qroom_0, qroom_c, List.map_cons, List.map_nil, List.sum_cons, List.sum_nil, Nat.reduceAdd, Nat.reduceMul, Nat.reduceLT, Nat.reduceLeDiff, Nat.reduceEqDiff, Nat.reduceSub, decide_true, true_and, and_true, and_self, if_true, if_false, Option.toList_some, Option.toList_none, List.cons_append, List.nil_append, qsL, qlong, List.length_cons, List.length_nil, iN_L, exI, iN_add, iN_mul, iN_le, iN_lt, iN_eq, Nat.le_refl, qfN0, qfN1, uX_16, vX_16, uX_19, vX_19, uX_27, vX_27, uX_30, vX_30, uX_39, vX_39, uX_41, vX_41, uX_43, vX_43, uX_46, vX_46, uX_50, vX_50, uX_53, vX_53, gX_50_2, m1', e1, hk.1, hk.2, hl, en, eq_true zl]
    · rw [e82_45]
      simp (disch := first | assumption | omega) only [e82_0, e82_1, e82_4, e82_5, e82_8, e82_10, e82_11, e82_14, e82_17, e82_18, e82_21, e82_22, e82_23, e82_25, e82_28, e82_29, e82_32, e82_33, e82_34, e82_36, e82_39, e82_42, e82_46, e82_47, e82_50, e82_51, e82_52, e82_55, e82_58, e82_59, e82_60, e82_61, e82_63, e82_64, e82_67, e82_70, e82_71, e82_74, e82_75, e82_78, e82_79, e82_80, e82_81, e82_82, e82_83, e82_86, e82_89, e82_90, e82_91, e82_94, e82_97, e82_98, e82_99, e82_102, e82_103, m82, ↓reduceIte, qg_0, qg_1, qg_2, qg_3, qg_4, qg_5, qg_6, qg_7, qg_8, qg_9, qg_10, qg_11, qg_12, qg_13, not_true_eq_false, not_false_eq_true, Nat.reduceBEq, Bool.false_eq_true, ex1, ex3, ex4, exF, qfit_i, qfit_l, qfit_r, qfit_n, qfit_b0, qfit_b1, qcat_i, qcat_r, qcat_n, qcat_l, qroom_0, qroom_c, List.map_cons, List.map_nil, List.sum_cons, List.sum_nil, Nat.reduceAdd, Nat.reduceMul, Nat.reduceLT, Nat.reduceLeDiff, Nat.reduceEqDiff, Nat.reduceSub, decide_true, true_and, and_true, and_self, if_true, if_false, Option.toList_some, Option.toList_none, List.cons_append, List.nil_append, qsL, qlong, List.length_cons, List.length_nil, iN_L, exI, iN_add, iN_mul, iN_le, iN_lt, iN_eq, Nat.le_refl, qfN0, qfN1, uX_16, vX_16, uX_19, vX_19, uX_27, vX_27, uX_30, vX_30, uX_39, vX_39, uX_41, vX_41, uX_43, vX_43, uX_46, vX_46, uX_50, vX_50, uX_53, vX_53, gX_50_2, m1', e1, hk.1, hk.2, hl, en, zl]
end XWORDS

/-! ===== THE CLASS: THE PATTERN ===== -/
section XPLAN
variable {d : Nat} {h : qH} {n : Nat} {ss : List Nat}
theorem PaX.at (v : PaX h n ss) {t : Nat} (ht : t < ss.length) : hi h 40 t = iN (ss.getD t 0) ∧ 1 ≤ ss.getD t 0 ∧ ss.getD t 0 < 4096 ∧ ss.getD t 0 < 2 ^ n := by
  have p12 := pw12 v.1.2
  obtain ⟨q1, q2, q3⟩ := v.2.2.2.2 t ht
  exact ⟨q1, q2, by omega, q3⟩
/-- how many points the sets have -/
def pzS (ss : List Nat) : Nat := if ss.length = 0 then 0 else pop (ss.getD 0 0) 24
theorem pzS_le : pzS ss ≤ 24 := by
  unfold pzS
  split
  · omega
  · exact pop_le _ 24
set_option maxRecDepth 100000 in
theorem x_setSize (s : ShX h) (v : PaX h n ss) (R : qRes) : qMC (d + 2) 61 [.ref 39] h R ↔ R = (some (.int (iN (pzS ss))), h) := by
  have l24 := v.2.1
  have m2 := v.2.2.2.1
  unfold pzS
  by_cases h0 : ss.length = 0
  · rw [if_pos h0]
    simp (disch := first | assumption | omega) only [e61_0, e61_1, e61_4, e61_7, e61_8, e61_11, e61_12, e61_15, e61_16, e61_17, e61_20, m61, ↓reduceIte, qg_0, qg_1, qg_2, qg_3, qg_4, qg_5, qg_6, qg_7, qg_8, qg_9, qg_10, qg_11, qg_12, qg_13, not_true_eq_false, not_false_eq_true, Nat.reduceBEq, Bool.false_eq_true, ex1, ex3, ex4, exF, qfit_i, qfit_l, qfit_r, qfit_n, qfit_b0, qfit_b1, qcat_i, qcat_r, qcat_n, qcat_l, qroom_0, qroom_c, List.map_cons, List.map_nil, List.sum_cons, List.sum_nil, Nat.reduceAdd, Nat.reduceMul, Nat.reduceLT, Nat.reduceLeDiff, Nat.reduceEqDiff, Nat.reduceSub, decide_true, true_and, and_true, and_self, if_true, if_false, Option.toList_some, Option.toList_none, List.cons_append, List.nil_append, qsL, qlong, List.length_cons, List.length_nil, iN_L, exI, iN_add, iN_mul, iN_le, iN_lt, iN_eq, Nat.le_refl, qfN0, qfN1, uX_16, vX_16, uX_19, vX_19, uX_27, vX_27, uX_30, vX_30, uX_39, vX_39, uX_41, vX_41, uX_43, vX_43, uX_46, vX_46, uX_50, vX_50, uX_53, vX_53, gX_39_2, m2, h0]
  · rw [if_neg h0]
    obtain ⟨z1, z2, z3, -⟩ := v.at (show 0 < ss.length by omega)
    have sz : ∀ R, qMC (d + 1) 308 [.int (iN (ss.getD 0 0))] h R ↔ R = (some (.int (iN (pop (ss.getD 0 0) 24))), h) := fun R => x_bitCount (by omega)
    simp (disch := first | assumption | omega) only [e61_0, e61_1, e61_4, e61_7, e61_8, e61_11, e61_12, e61_15, e61_16, e61_17, e61_20, m61, ↓reduceIte, qg_0, qg_1, qg_2, qg_3, qg_4, qg_5, qg_6, qg_7, qg_8, qg_9, qg_10, qg_11, qg_12, qg_13, not_true_eq_false, not_false_eq_true, Nat.reduceBEq, Bool.false_eq_true, ex1, ex3, ex4, exF, qfit_i, qfit_l, qfit_r, qfit_n, qfit_b0, qfit_b1, qcat_i, qcat_r, qcat_n, qcat_l, qroom_0, qroom_c, List.map_cons, List.map_nil, List.sum_cons, List.sum_nil, Nat.reduceAdd, Nat.reduceMul, Nat.reduceLT, Nat.reduceLeDiff, Nat.reduceEqDiff, Nat.reduceSub, decide_true, true_and, and_true, and_self, if_true, if_false, Option.toList_some, Option.toList_none, List.cons_append, List.nil_append, qsL, qlong, List.length_cons, List.length_nil, iN_L, exI, iN_add, iN_mul, iN_le, iN_lt, iN_eq, Nat.le_refl, qfN0, qfN1, uX_16, vX_16, uX_19, vX_19, uX_27, vX_27, uX_30, vX_30, uX_39, vX_39, uX_41, vX_41, uX_43, vX_43, uX_46, vX_46, uX_50, vX_50, uX_53, vX_53, gX_39_2, m2, h0, gX_39_1, rX_40, z1, sz]
theorem any_f {p : Nat → Bool} {m : Nat} : anyN p m = false ↔ ∀ t, t < m → p t = false := by
  constructor
  · intro hf t ht
    cases e : p t with
    | false => rfl
    | true => rw [anyN_iff.mpr ⟨t, ht, e⟩] at hf; cases hf
  · intro hf
    cases e : anyN p m with
    | false => rfl
    | true =>
      obtain ⟨t, ht, e2⟩ := anyN_iff.mp e
      rw [hf t ht] at e2; cases e2
set_option maxRecDepth 100000 in
set_option maxHeartbeats 16000000 in
theorem x_admits {k : Nat} (s : ShX h) (v : PaX h n ss) (hk : k < 4096) (R : qRes) : qMC (d + 3) 62 [.ref 39, .int (iN k)] h R ↔ R = (some (.int (bB (!badS ss k))), h) := by
  have l24 := v.2.1
  have m2 := v.2.2.2.1
  have sb : ∀ R, qMC (d + 2) 308 [.int (iN k)] h R ↔ R = (some (.int (iN (pop k 24))), h) := fun R => x_bitCount (by omega)
  have ss' : ∀ R, qMC (d + 2) 61 [.ref 39] h R ↔ R = (some (.int (iN (pzS ss))), h) := fun R => x_setSize s v R
  have pk := pop_le k 24
  have pz := pzS_le (ss := ss)
  have go : ∀ (w j : Nat), j + w = ss.length → (∀ t, t < j → ss.getD t 0 ≠ k) → (qEv (d + 2) 3 qk_62 2 [some (.ref 39), some (.int (iN k)), some (.int (iN j))] [] h R ↔ R = (some (.int (bB (!badS ss k))), h)) := by
    intro w
    induction w with
    | zero =>
      intro j hj hn
      have na : anyN (fun t => decide (ss.getD t 0 = k)) ss.length = false := any_f.mpr fun t ht => decide_eq_false (hn t (by omega))
      unfold badS
      rw [na, Bool.or_false, e62_2]
      by_cases h0 : ss.length = 0
      · rw [decide_eq_false (show ¬ 0 < ss.length by omega), Bool.false_and, Bool.not_false, bN_t]
        simp (disch := first | assumption | omega) only [e62_0, e62_1, e62_3, e62_4, e62_7, e62_10, e62_11, e62_14, e62_15, e62_16, e62_17, e62_20, e62_21, e62_22, e62_25, e62_28, e62_29, e62_32, e62_35, e62_36, e62_39, e62_40, e62_43, e62_46, e62_47, e62_50, e62_51, m62, ↓reduceIte, qg_0, qg_1, qg_2, qg_3, qg_4, qg_5, qg_6, qg_7, qg_8, qg_9, qg_10, qg_11, qg_12, qg_13, not_true_eq_false, not_false_eq_true, Nat.reduceBEq, Bool.false_eq_true, ex1, ex3, ex4, exF, qfit_i, qfit_l, qfit_r, qfit_n, qfit_b0, qfit_b1, qcat_i, qcat_r, qcat_n, qcat_l, qroom_0, qroom_c, List.map_cons, List.map_nil, List.sum_cons, List.sum_nil, Nat.reduceAdd, Nat.reduceMul, Nat.reduceLT, Nat.reduceLeDiff, Nat.reduceEqDiff, Nat.reduceSub, decide_true, true_and, and_true, and_self, if_true, if_false, Option.toList_some, Option.toList_none, List.cons_append, List.nil_append, qsL, qlong, List.length_cons, List.length_nil, iN_L, exI, iN_add, iN_mul, iN_le, iN_lt, iN_eq, Nat.le_refl, qfN0, qfN1, uX_16, vX_16, uX_19, vX_19, uX_27, vX_27, uX_30, vX_30, uX_39, vX_39, uX_41, vX_41, uX_43, vX_43, uX_46, vX_46, uX_50, vX_50, uX_53, vX_53, gX_39_2, m2, h0, show 0 ≤ j by omega]
      · have ez : pzS ss = pop (ss.getD 0 0) 24 := if_neg h0
        rw [decide_eq_true (show 0 < ss.length by omega), Bool.true_and, ← ez]
        by_cases h2 : pop k 24 = pzS ss
        · rw [decide_eq_false (show ¬ (pop k 24 ≠ pzS ss) from fun z => z h2), Bool.not_false, bN_t]
          simp (disch := first | assumption | omega) only [e62_0, e62_1, e62_3, e62_4, e62_7, e62_10, e62_11, e62_14, e62_15, e62_16, e62_17, e62_20, e62_21, e62_22, e62_25, e62_28, e62_29, e62_32, e62_35, e62_36, e62_39, e62_40, e62_43, e62_46, e62_47, e62_50, e62_51, m62, ↓reduceIte, qg_0, qg_1, qg_2, qg_3, qg_4, qg_5, qg_6, qg_7, qg_8, qg_9, qg_10, qg_11, qg_12, qg_13, not_true_eq_false, not_false_eq_true, Nat.reduceBEq, Bool.false_eq_true, ex1, ex3, ex4, exF, qfit_i, qfit_l, qfit_r, qfit_n, qfit_b0, qfit_b1, qcat_i, qcat_r, qcat_n, qcat_l, qroom_0, qroom_c, List.map_cons, List.map_nil, List.sum_cons, List.sum_nil, Nat.reduceAdd, Nat.reduceMul, Nat.reduceLT, Nat.reduceLeDiff, Nat.reduceEqDiff, Nat.reduceSub, decide_true, true_and, and_true, and_self, if_true, if_false, Option.toList_some, Option.toList_none, List.cons_append, List.nil_append, qsL, qlong, List.length_cons, List.length_nil, iN_L, exI, iN_add, iN_mul, iN_le, iN_lt, iN_eq, Nat.le_refl, qfN0, qfN1, uX_16, vX_16, uX_19, vX_19, uX_27, vX_27, uX_30, vX_30, uX_39, vX_39, uX_41, vX_41, uX_43, vX_43, uX_46, vX_46, uX_50, vX_50, uX_53, vX_53, gX_39_2, m2, show ss.length ≤ j by omega, h0, sb, ss', h2]
        · rw [decide_eq_true h2, Bool.not_true, bN_f]
          simp (disch := first | assumption | omega) only [e62_0, e62_1, e62_3, e62_4, e62_7, e62_10, e62_11, e62_14, e62_15, e62_16, e62_17, e62_20, e62_21, e62_22, e62_25, e62_28, e62_29, e62_32, e62_35, e62_36, e62_39, e62_40, e62_43, e62_46, e62_47, e62_50, e62_51, m62, ↓reduceIte, qg_0, qg_1, qg_2, qg_3, qg_4, qg_5, qg_6, qg_7, qg_8, qg_9, qg_10, qg_11, qg_12, qg_13, not_true_eq_false, not_false_eq_true, Nat.reduceBEq, Bool.false_eq_true, ex1, ex3, ex4, exF, qfit_i, qfit_l, qfit_r, qfit_n, qfit_b0, qfit_b1, qcat_i, qcat_r, qcat_n, qcat_l, qroom_0, qroom_c, List.map_cons, List.map_nil, List.sum_cons, List.sum_nil, Nat.reduceAdd, Nat.reduceMul, Nat.reduceLT, Nat.reduceLeDiff, Nat.reduceEqDiff, Nat.reduceSub, decide_true, true_and, and_true, and_self, if_true, if_false, Option.toList_some, Option.toList_none, List.cons_append, List.nil_append, qsL, qlong, List.length_cons, List.length_nil, iN_L, exI, iN_add, iN_mul, iN_le, iN_lt, iN_eq, Nat.le_refl, qfN0, qfN1, uX_16, vX_16, uX_19, vX_19, uX_27, vX_27, uX_30, vX_30, uX_39, vX_39, uX_41, vX_41, uX_43, vX_43, uX_46, vX_46, uX_50, vX_50, uX_53, vX_53, gX_39_2, m2, show ss.length ≤ j by omega, h0, sb, ss', h2]
    | succ w ih =>
      intro j hj hn
      obtain ⟨q1, q2, q3, -⟩ := v.at (show j < ss.length by omega)
      by_cases q : ss.getD j 0 = k
      · have bd : badS ss k = true := by
          unfold badS
          rw [anyN_iff.mpr ⟨j, by omega, decide_eq_true q⟩, Bool.or_true]
        rw [bd, Bool.not_true, bN_f, e62_2]
        simp (disch := first | assumption | omega) only [e62_0, e62_1, e62_3, e62_4, e62_7, e62_10, e62_11, e62_14, e62_15, e62_16, e62_17, e62_20, e62_21, e62_22, e62_25, e62_28, e62_29, e62_32, e62_35, e62_36, e62_39, e62_40, e62_43, e62_46, e62_47, e62_50, e62_51, m62, ↓reduceIte, qg_0, qg_1, qg_2, qg_3, qg_4, qg_5, qg_6, qg_7, qg_8, qg_9, qg_10, qg_11, qg_12, qg_13, not_true_eq_false, not_false_eq_true, Nat.reduceBEq, Bool.false_eq_true, ex1, ex3, ex4, exF, qfit_i, qfit_l, qfit_r, qfit_n, qfit_b0, qfit_b1, qcat_i, qcat_r, qcat_n, qcat_l, qroom_0, qroom_c, List.map_cons, List.map_nil, List.sum_cons, List.sum_nil, Nat.reduceAdd, Nat.reduceMul, Nat.reduceLT, Nat.reduceLeDiff, Nat.reduceEqDiff, Nat.reduceSub, decide_true, true_and, and_true, and_self, if_true, if_false, Option.toList_some, Option.toList_none, List.cons_append, List.nil_append, qsL, qlong, List.length_cons, List.length_nil, iN_L, exI, iN_add, iN_mul, iN_le, iN_lt, iN_eq, Nat.le_refl, qfN0, qfN1, uX_16, vX_16, uX_19, vX_19, uX_27, vX_27, uX_30, vX_30, uX_39, vX_39, uX_41, vX_41, uX_43, vX_43, uX_46, vX_46, uX_50, vX_50, uX_53, vX_53, gX_39_2, m2, show ¬ ss.length ≤ j by omega, gX_39_1, rX_40, q1, q]
      · rw [← ih (j + 1) (by omega) (fun t ht => by
          rcases Nat.lt_or_ge t j with z | z
          · exact hn t z
          · rw [show t = j by omega]; exact q), e62_2]
        simp (disch := first | assumption | omega) only [e62_0, e62_1, e62_3, e62_4, e62_7, e62_10, e62_11, e62_14, e62_15, e62_16, e62_17, e62_20, e62_21, e62_22, e62_25, e62_28, e62_29, e62_32, e62_35, e62_36, e62_39, e62_40, e62_43, e62_46, e62_47, e62_50, e62_51, m62, ↓reduceIte, qg_0, qg_1, qg_2, qg_3, qg_4, qg_5, qg_6, qg_7, qg_8, qg_9, qg_10, qg_11, qg_12, qg_13, not_true_eq_false, not_false_eq_true, Nat.reduceBEq, Bool.false_eq_true, ex1, ex3, ex4, exF, qfit_i, qfit_l, qfit_r, qfit_n, qfit_b0, qfit_b1, qcat_i, qcat_r, qcat_n, qcat_l, qroom_0, qroom_c, List.map_cons, List.map_nil, List.sum_cons, List.sum_nil, Nat.reduceAdd, Nat.reduceMul, Nat.reduceLT, Nat.reduceLeDiff, Nat.reduceEqDiff, Nat.reduceSub, decide_true, true_and, and_true, and_self, if_true, if_false, Option.toList_some, Option.toList_none, List.cons_append, List.nil_append, qsL, qlong, List.length_cons, List.length_nil, iN_L, exI, iN_add, iN_mul, iN_le, iN_lt, iN_eq, Nat.le_refl, qfN0, qfN1, uX_16, vX_16, uX_19, vX_19, uX_27, vX_27, uX_30, vX_30, uX_39, vX_39, uX_41, vX_41, uX_43, vX_43, uX_46, vX_46, uX_50, vX_50, uX_53, vX_53, gX_39_2, m2, show ¬ ss.length ≤ j by omega, gX_39_1, rX_40, q1, q]
  rw [← go ss.length 0 (by omega) (fun t ht => absurd ht (Nat.not_lt_zero t))]
  simp (disch := first | assumption | omega) only [e62_0, e62_1, e62_3, e62_4, e62_7, e62_10, e62_11, e62_14, e62_15, e62_16, e62_17, e62_20, e62_21, e62_22, e62_25, e62_28, e62_29, e62_32, e62_35, e62_36, e62_39, e62_40, e62_43, e62_46, e62_47, e62_50, e62_51, m62, ↓reduceIte, qg_0, qg_1, qg_2, qg_3, qg_4, qg_5, qg_6, qg_7, qg_8, qg_9, qg_10, qg_11, qg_12, qg_13, not_true_eq_false, not_false_eq_true, Nat.reduceBEq, Bool.false_eq_true, ex1, ex3, ex4, exF, qfit_i, qfit_l, qfit_r, qfit_n, qfit_b0, qfit_b1, qcat_i, qcat_r, qcat_n, qcat_l, qroom_0, qroom_c, List.map_cons, List.map_nil, List.sum_cons, List.sum_nil, Nat.reduceAdd, Nat.reduceMul, Nat.reduceLT, Nat.reduceLeDiff, Nat.reduceEqDiff, Nat.reduceSub, decide_true, true_and, and_true, and_self, if_true, if_false, Option.toList_some, Option.toList_none, List.cons_append, List.nil_append, qsL, qlong, List.length_cons, List.length_nil, iN_L, exI, iN_add, iN_mul, iN_le, iN_lt, iN_eq, Nat.le_refl, qfN0, qfN1, uX_16, vX_16, uX_19, vX_19, uX_27, vX_27, uX_30, vX_30, uX_39, vX_39, uX_41, vX_41, uX_43, vX_43, uX_46, vX_46, uX_50, vX_50, uX_53, vX_53]
set_option maxRecDepth 100000 in
theorem x_addP {k : Nat} (s : ShX h) (v : PaX h n ss) (hk : 1 ≤ k ∧ k < 2 ^ n) (hl : ss.length < 24) : ∃ h', (∀ R, qMC (d + 1) 63 [.ref 39, .int (iN k)] h R ↔ R = (some (.int (iN 1)), h')) ∧ ChX [40] [(39, 2)] 0 h h' ∧ PaX h' n (ss ++ [k]) := by
  obtain ⟨n3, l24, m0, m2, hs⟩ := v
  obtain ⟨g1, eg1⟩ : ∃ g1, g1 = sI h 40 (upd (hi h 40) ss.length (iN k)) := ⟨_, rfl⟩
  have c1 : ChX [40] [(39, 2)] 0 h g1 := by rw [eg1]; exact ChX.rowI s (kX_40 s) (by decide) (by decide)
  have s1 := c1.sh
  have w1 : qiast h 40 (iN ss.length) (iN k) = some g1 := by rw [eg1]; exact wX_40 s (by omega)
  have m1 : xi g1 39 2 = iN ss.length := by rw [eg1]; unfold xi; rw [hf_sI (kX_40 s)]; exact m2
  obtain ⟨g2, eg2⟩ : ∃ g2, g2 = xV g1 39 2 (.int (iN (ss.length + 1))) := ⟨_, rfl⟩
  have c2 : ChX [40] [(39, 2)] 0 h g2 := c1.trans0 (by rw [eg2]; exact ChX.setI s1 (by decide) (by decide))
  have p2 : qput g1 39 5 2 (.int (iN (ss.length + 1))) = some g2 := by rw [eg2]; exact pX_39_2 s1
  refine ⟨g2, fun R => ?_, c2, n3, by rw [List.length_append, List.length_singleton]; omega, by rw [c2.xi (by decide) (by decide)]; exact m0, by rw [eg2, xi_xV, if_pos ⟨rfl, rfl⟩, List.length_append, List.length_singleton], fun t ht => ?_⟩
  · simp (disch := first | assumption | omega) only [e63_0, e63_1, e63_4, e63_6, e63_9, e63_10, e63_11, e63_12, e63_15, e63_16, e63_19, e63_20, e63_21, e63_22, e63_23, e63_26, e63_27, e63_28, e63_31, e63_32, m63, ↓reduceIte, qg_0, qg_1, qg_2, qg_3, qg_4, qg_5, qg_6, qg_7, qg_8, qg_9, qg_10, qg_11, qg_12, qg_13, not_true_eq_false, not_false_eq_true, Nat.reduceBEq, Bool.false_eq_true, ex1, ex3, ex4, exF, qfit_i, qfit_l, qfit_r, qfit_n, qfit_b0, qfit_b1, qcat_i, qcat_r, qcat_n, qcat_l, qroom_0, qroom_c, List.map_cons, List.map_nil, List.sum_cons, List.sum_nil, Nat.reduceAdd, Nat.reduceMul, Nat.reduceLT, Nat.reduceLeDiff, Nat.reduceEqDiff, Nat.reduceSub, decide_true, true_and, and_true, and_self, if_true, if_false, Option.toList_some, Option.toList_none, List.cons_append, List.nil_append, qsL, qlong, List.length_cons, List.length_nil, iN_L, exI, iN_add, iN_mul, iN_le, iN_lt, iN_eq, Nat.le_refl, qfN0, qfN1, uX_16, vX_16, uX_19, vX_19, uX_27, vX_27, uX_30, vX_30, uX_39, vX_39, uX_41, vX_41, uX_43, vX_43, uX_46, vX_46, uX_50, vX_50, uX_53, vX_53, gX_39_2, m2, hl, gX_39_1, w1, m1, p2]
  · rw [List.length_append, List.length_singleton] at ht
    rw [getD_snoc ht, eg2, hi_xV (oX_39 s1), eg1, hi_sI, if_pos rfl, upd_at]
    by_cases e : t = ss.length
    · rw [if_pos e, if_pos e]; exact ⟨rfl, hk⟩
    · rw [if_neg e, if_neg e]; exact hs t (by omega)
set_option maxRecDepth 100000 in
set_option maxHeartbeats 16000000 in
theorem x_set {x : Int32} (s : ShX h) (v : PaX h n ss) : ∃ h' r ss', (∀ R, qMC (d + 4) 153 [.ref 16, .int x] h R ↔ R = (some (.int r), h')) ∧ ChX [40] [(39, 2)] 0 h h' ∧ PaX h' n ss' ∧ setR n ss x r ss' := by
  have n12 := v.1
  have p12 := pw12 v.1.2
  have pp := Nat.two_pow_pos n
  have l24 := v.2.1
  have m0 := v.2.2.1
  have m2 := v.2.2.2.1
  have e1 : iN 1 <<< (iN n &&& iN 31) = iN (2 ^ n) := iN_shl1 n (by omega)
  by_cases hx : ∃ k, (1 ≤ k ∧ k ≤ 2 ^ n - 1) ∧ x = iN k
  · obtain ⟨k, ⟨k1, k2⟩, rfl⟩ := hx
    have ad : ∀ R, qMC (d + 3) 62 [.ref 39, .int (iN k)] h R ↔ R = (some (.int (bB (!badS ss k))), h) := fun R => x_admits s v (by omega) R
    cases hbad : badS ss k with
    | true =>
      rw [hbad, Bool.not_true, bN_f] at ad
      refine ⟨h, -1003, ss, fun R => ?_, ChX.refl s, v, Or.inr ⟨k, ⟨⟨k1, k2⟩, rfl⟩, Or.inl ⟨hbad, rfl, rfl⟩⟩⟩
      simp (disch := first | assumption | omega) only [e153_0, e153_1, e153_4, e153_5, e153_6, e153_7, e153_10, e153_13, e153_14, e153_17, e153_20, e153_21, e153_22, e153_25, e153_26, e153_29, e153_32, e153_35, e153_36, e153_37, e153_40, e153_41, e153_44, e153_47, e153_48, e153_51, e153_54, e153_57, e153_60, m153, ↓reduceIte, qg_0, qg_1, qg_2, qg_3, qg_4, qg_5, qg_6, qg_7, qg_8, qg_9, qg_10, qg_11, qg_12, qg_13, not_true_eq_false, not_false_eq_true, Nat.reduceBEq, Bool.false_eq_true, ex1, ex3, ex4, exF, qfit_i, qfit_l, qfit_r, qfit_n, qfit_b0, qfit_b1, qcat_i, qcat_r, qcat_n, qcat_l, qroom_0, qroom_c, List.map_cons, List.map_nil, List.sum_cons, List.sum_nil, Nat.reduceAdd, Nat.reduceMul, Nat.reduceLT, Nat.reduceLeDiff, Nat.reduceEqDiff, Nat.reduceSub, decide_true, true_and, and_true, and_self, if_true, if_false, Option.toList_some, Option.toList_none, List.cons_append, List.nil_append, qsL, qlong, List.length_cons, List.length_nil, iN_L, exI, iN_add, iN_mul, iN_le, iN_lt, iN_eq, Nat.le_refl, qfN0, qfN1, uX_16, vX_16, uX_19, vX_19, uX_27, vX_27, uX_30, vX_30, uX_39, vX_39, uX_41, vX_41, uX_43, vX_43, uX_46, vX_46, uX_50, vX_50, uX_53, vX_53, gX_16_7, gX_39_0, m0, e1, show ¬ k ≤ 0 by omega, show k < 2 ^ n by omega, ad]
    | false =>
      rw [hbad, Bool.not_false, bN_t] at ad
      by_cases h24 : ss.length < 24
      · obtain ⟨h', ra, c, v'⟩ := x_addP (d := d + 2) s v (show 1 ≤ k ∧ k < 2 ^ n by omega) h24
        have s' := c.sh
        have m' := v'.2.2.2.1
        rw [List.length_append, List.length_singleton] at m'
        refine ⟨h', iN (ss.length + 1), ss ++ [k], fun R => ?_, c, v', Or.inr ⟨k, ⟨⟨k1, k2⟩, rfl⟩, Or.inr (Or.inr ⟨hbad, h24, rfl, rfl⟩)⟩⟩
        simp (disch := first | assumption | omega) only [e153_0, e153_1, e153_4, e153_5, e153_6, e153_7, e153_10, e153_13, e153_14, e153_17, e153_20, e153_21, e153_22, e153_25, e153_26, e153_29, e153_32, e153_35, e153_36, e153_37, e153_40, e153_41, e153_44, e153_47, e153_48, e153_51, e153_54, e153_57, e153_60, m153, ↓reduceIte, qg_0, qg_1, qg_2, qg_3, qg_4, qg_5, qg_6, qg_7, qg_8, qg_9, qg_10, qg_11, qg_12, qg_13, not_true_eq_false, not_false_eq_true, Nat.reduceBEq, Bool.false_eq_true, ex1, ex3, ex4, exF, qfit_i, qfit_l, qfit_r, qfit_n, qfit_b0, qfit_b1, qcat_i, qcat_r, qcat_n, qcat_l, qroom_0, qroom_c, List.map_cons, List.map_nil, List.sum_cons, List.sum_nil, Nat.reduceAdd, Nat.reduceMul, Nat.reduceLT, Nat.reduceLeDiff, Nat.reduceEqDiff, Nat.reduceSub, decide_true, true_and, and_true, and_self, if_true, if_false, Option.toList_some, Option.toList_none, List.cons_append, List.nil_append, qsL, qlong, List.length_cons, List.length_nil, iN_L, exI, iN_add, iN_mul, iN_le, iN_lt, iN_eq, Nat.le_refl, qfN0, qfN1, uX_16, vX_16, uX_19, vX_19, uX_27, vX_27, uX_30, vX_30, uX_39, vX_39, uX_41, vX_41, uX_43, vX_43, uX_46, vX_46, uX_50, vX_50, uX_53, vX_53, gX_16_7, gX_39_0, gX_39_2, m0, e1, show ¬ k ≤ 0 by omega, show k < 2 ^ n by omega, ad, iN10, ra, m']
      · have ra : ∀ R, qMC (d + 3) 63 [.ref 39, .int (iN k)] h R ↔ R = (some (.int (iN 0)), h) := by
          intro R
          simp (disch := first | assumption | omega) only [e63_0, e63_1, e63_4, e63_6, e63_9, e63_10, e63_11, e63_12, e63_15, e63_16, e63_19, e63_20, e63_21, e63_22, e63_23, e63_26, e63_27, e63_28, e63_31, e63_32, m63, ↓reduceIte, qg_0, qg_1, qg_2, qg_3, qg_4, qg_5, qg_6, qg_7, qg_8, qg_9, qg_10, qg_11, qg_12, qg_13, not_true_eq_false, not_false_eq_true, Nat.reduceBEq, Bool.false_eq_true, ex1, ex3, ex4, exF, qfit_i, qfit_l, qfit_r, qfit_n, qfit_b0, qfit_b1, qcat_i, qcat_r, qcat_n, qcat_l, qroom_0, qroom_c, List.map_cons, List.map_nil, List.sum_cons, List.sum_nil, Nat.reduceAdd, Nat.reduceMul, Nat.reduceLT, Nat.reduceLeDiff, Nat.reduceEqDiff, Nat.reduceSub, decide_true, true_and, and_true, and_self, if_true, if_false, Option.toList_some, Option.toList_none, List.cons_append, List.nil_append, qsL, qlong, List.length_cons, List.length_nil, iN_L, exI, iN_add, iN_mul, iN_le, iN_lt, iN_eq, Nat.le_refl, qfN0, qfN1, uX_16, vX_16, uX_19, vX_19, uX_27, vX_27, uX_30, vX_30, uX_39, vX_39, uX_41, vX_41, uX_43, vX_43, uX_46, vX_46, uX_50, vX_50, uX_53, vX_53, gX_39_2, m2, h24]
        refine ⟨h, -1004, ss, fun R => ?_, ChX.refl s, v, Or.inr ⟨k, ⟨⟨k1, k2⟩, rfl⟩, Or.inr (Or.inl ⟨hbad, by omega, rfl, rfl⟩)⟩⟩
        simp (disch := first | assumption | omega) only [e153_0, e153_1, e153_4, e153_5, e153_6, e153_7, e153_10, e153_13, e153_14, e153_17, e153_20, e153_21, e153_22, e153_25, e153_26, e153_29, e153_32, e153_35, e153_36, e153_37, e153_40, e153_41, e153_44, e153_47, e153_48, e153_51, e153_54, e153_57, e153_60, m153, ↓reduceIte, qg_0, qg_1, qg_2, qg_3, qg_4, qg_5, qg_6, qg_7, qg_8, qg_9, qg_10, qg_11, qg_12, qg_13, not_true_eq_false, not_false_eq_true, Nat.reduceBEq, Bool.false_eq_true, ex1, ex3, ex4, exF, qfit_i, qfit_l, qfit_r, qfit_n, qfit_b0, qfit_b1, qcat_i, qcat_r, qcat_n, qcat_l, qroom_0, qroom_c, List.map_cons, List.map_nil, List.sum_cons, List.sum_nil, Nat.reduceAdd, Nat.reduceMul, Nat.reduceLT, Nat.reduceLeDiff, Nat.reduceEqDiff, Nat.reduceSub, decide_true, true_and, and_true, and_self, if_true, if_false, Option.toList_some, Option.toList_none, List.cons_append, List.nil_append, qsL, qlong, List.length_cons, List.length_nil, iN_L, exI, iN_add, iN_mul, iN_le, iN_lt, iN_eq, Nat.le_refl, qfN0, qfN1, uX_16, vX_16, uX_19, vX_19, uX_27, vX_27, uX_30, vX_30, uX_39, vX_39, uX_41, vX_41, uX_43, vX_43, uX_46, vX_46, uX_50, vX_50, uX_53, vX_53, gX_16_7, gX_39_0, m0, e1, show ¬ k ≤ 0 by omega, show k < 2 ^ n by omega, ad, iN10, ra]
  · refine ⟨h, -1002, ss, fun R => ?_, ChX.refl s, v, Or.inl ⟨hx, rfl, rfl⟩⟩
    by_cases q : x ≤ iN 0
    · simp (disch := first | assumption | omega) only [e153_0, e153_1, e153_4, e153_5, e153_6, e153_7, e153_10, e153_13, e153_14, e153_17, e153_20, e153_21, e153_22, e153_25, e153_26, e153_29, e153_32, e153_35, e153_36, e153_37, e153_40, e153_41, e153_44, e153_47, e153_48, e153_51, e153_54, e153_57, e153_60, m153, ↓reduceIte, qg_0, qg_1, qg_2, qg_3, qg_4, qg_5, qg_6, qg_7, qg_8, qg_9, qg_10, qg_11, qg_12, qg_13, not_true_eq_false, not_false_eq_true, Nat.reduceBEq, Bool.false_eq_true, ex1, ex3, ex4, exF, qfit_i, qfit_l, qfit_r, qfit_n, qfit_b0, qfit_b1, qcat_i, qcat_r, qcat_n, qcat_l, qroom_0, qroom_c, List.map_cons, List.map_nil, List.sum_cons, List.sum_nil, Nat.reduceAdd, Nat.reduceMul, Nat.reduceLT, Nat.reduceLeDiff, Nat.reduceEqDiff, Nat.reduceSub, decide_true, true_and, and_true, and_self, if_true, if_false, Option.toList_some, Option.toList_none, List.cons_append, List.nil_append, qsL, qlong, List.length_cons, List.length_nil, iN_L, exI, iN_add, iN_mul, iN_le, iN_lt, iN_eq, Nat.le_refl, qfN0, qfN1, uX_16, vX_16, uX_19, vX_19, uX_27, vX_27, uX_30, vX_30, uX_39, vX_39, uX_41, vX_41, uX_43, vX_43, uX_46, vX_46, uX_50, vX_50, uX_53, vX_53, q]
    · have q2 : ¬ x < iN (2 ^ n) := fun z => hx (by
        rw [lt_N (by omega)] at z
        rw [le_N (by omega)] at q
        refine ⟨x.toInt.toNat, by omega, ?_⟩
        rw [← Int32.toInt_inj, iN_int (by omega)]
        omega)
      simp (disch := first | assumption | omega) only [e153_0, e153_1, e153_4, e153_5, e153_6, e153_7, e153_10, e153_13, e153_14, e153_17, e153_20, e153_21, e153_22, e153_25, e153_26, e153_29, e153_32, e153_35, e153_36, e153_37, e153_40, e153_41, e153_44, e153_47, e153_48, e153_51, e153_54, e153_57, e153_60, m153, ↓reduceIte, qg_0, qg_1, qg_2, qg_3, qg_4, qg_5, qg_6, qg_7, qg_8, qg_9, qg_10, qg_11, qg_12, qg_13, not_true_eq_false, not_false_eq_true, Nat.reduceBEq, Bool.false_eq_true, ex1, ex3, ex4, exF, qfit_i, qfit_l, qfit_r, qfit_n, qfit_b0, qfit_b1, qcat_i, qcat_r, qcat_n, qcat_l, qroom_0, qroom_c, List.map_cons, List.map_nil, List.sum_cons, List.sum_nil, Nat.reduceAdd, Nat.reduceMul, Nat.reduceLT, Nat.reduceLeDiff, Nat.reduceEqDiff, Nat.reduceSub, decide_true, true_and, and_true, and_self, if_true, if_false, Option.toList_some, Option.toList_none, List.cons_append, List.nil_append, qsL, qlong, List.length_cons, List.length_nil, iN_L, exI, iN_add, iN_mul, iN_le, iN_lt, iN_eq, Nat.le_refl, qfN0, qfN1, uX_16, vX_16, uX_19, vX_19, uX_27, vX_27, uX_30, vX_30, uX_39, vX_39, uX_41, vX_41, uX_43, vX_43, uX_46, vX_46, uX_50, vX_50, uX_53, vX_53, gX_16_7, gX_39_0, m0, e1, q, q2]
set_option maxRecDepth 100000 in
set_option maxHeartbeats 16000000 in
theorem x_setsAround {x : Nat} (s : ShX h) (v : PaX h n ss) (hx : x < 65536) (R : qRes) : qMC (d + 1) 66 [.ref 39, .int (iN x)] h R ↔ R = (some (.int (iN (cntN (lyB ss x) ss.length))), h) := by
  have l24 := v.2.1
  have m2 := v.2.2.2.1
  have r0 : qMC (d + 1) 66 [.ref 39, .int (iN x)] h R ↔ qEv d 0 qk_66 4 [some (.ref 39), some (.int (iN x)), some (.int (iN (cntN (lyB ss x) 0))), some (.int (iN 0))] [] h R := by
    rw [show cntN (lyB ss x) 0 = 0 from rfl]
    simp (disch := first | assumption | omega) only [e66_0, e66_1, e66_2, e66_3, e66_5, e66_6, e66_9, e66_12, e66_13, e66_14, e66_17, e66_18, e66_19, e66_20, e66_21, e66_22, e66_25, e66_28, e66_31, e66_34, e66_35, m66, ↓reduceIte, qg_0, qg_1, qg_2, qg_3, qg_4, qg_5, qg_6, qg_7, qg_8, qg_9, qg_10, qg_11, qg_12, qg_13, not_true_eq_false, not_false_eq_true, Nat.reduceBEq, Bool.false_eq_true, ex1, ex3, ex4, exF, qfit_i, qfit_l, qfit_r, qfit_n, qfit_b0, qfit_b1, qcat_i, qcat_r, qcat_n, qcat_l, qroom_0, qroom_c, List.map_cons, List.map_nil, List.sum_cons, List.sum_nil, Nat.reduceAdd, Nat.reduceMul, Nat.reduceLT, Nat.reduceLeDiff, Nat.reduceEqDiff, Nat.reduceSub, decide_true, true_and, and_true, and_self, if_true, if_false, Option.toList_some, Option.toList_none, List.cons_append, List.nil_append, qsL, qlong, List.length_cons, List.length_nil, iN_L, exI, iN_add, iN_mul, iN_le, iN_lt, iN_eq, Nat.le_refl, qfN0, qfN1, uX_16, vX_16, uX_19, vX_19, uX_27, vX_27, uX_30, vX_30, uX_39, vX_39, uX_41, vX_41, uX_43, vX_43, uX_46, vX_46, uX_50, vX_50, uX_53, vX_53]
  rw [r0]
  refine Iff.trans (loop_up (n := ss.length) (L := fun t => [some (.ref 39), some (.int (iN x)), some (.int (iN (cntN (lyB ss x) t))), some (.int (iN t))]) (H := fun _ => h) ?_) ?_
  · intro t ht
    try dsimp only
    obtain ⟨q1, q2, q3, -⟩ := v.at ht
    have wl := wo_le x (ss.getD t 0)
    rw [e66_4, cntN]
    by_cases e : wo x (ss.getD t 0) = 0
    · rw [show lyB ss x t = true from decide_eq_true e, if_pos rfl]
      simp (disch := first | assumption | omega) only [e66_0, e66_1, e66_2, e66_3, e66_5, e66_6, e66_9, e66_12, e66_13, e66_14, e66_17, e66_18, e66_19, e66_20, e66_21, e66_22, e66_25, e66_28, e66_31, e66_34, e66_35, m66, ↓reduceIte, qg_0, qg_1, qg_2, qg_3, qg_4, qg_5, qg_6, qg_7, qg_8, qg_9, qg_10, qg_11, qg_12, qg_13, not_true_eq_false, not_false_eq_true, Nat.reduceBEq, Bool.false_eq_true, ex1, ex3, ex4, exF, qfit_i, qfit_l, qfit_r, qfit_n, qfit_b0, qfit_b1, qcat_i, qcat_r, qcat_n, qcat_l, qroom_0, qroom_c, List.map_cons, List.map_nil, List.sum_cons, List.sum_nil, Nat.reduceAdd, Nat.reduceMul, Nat.reduceLT, Nat.reduceLeDiff, Nat.reduceEqDiff, Nat.reduceSub, decide_true, true_and, and_true, and_self, if_true, if_false, Option.toList_some, Option.toList_none, List.cons_append, List.nil_append, qsL, qlong, List.length_cons, List.length_nil, iN_L, exI, iN_add, iN_mul, iN_le, iN_lt, iN_eq, Nat.le_refl, qfN0, qfN1, uX_16, vX_16, uX_19, vX_19, uX_27, vX_27, uX_30, vX_30, uX_39, vX_39, uX_41, vX_41, uX_43, vX_43, uX_46, vX_46, uX_50, vX_50, uX_53, vX_53, gX_39_2, m2, show ¬ ss.length ≤ t by omega, gX_39_1, rX_40, q1, iN_wo', e]
    · rw [show lyB ss x t = false from decide_eq_false e, if_neg Bool.false_ne_true, Nat.add_zero]
      simp (disch := first | assumption | omega) only [e66_0, e66_1, e66_2, e66_3, e66_5, e66_6, e66_9, e66_12, e66_13, e66_14, e66_17, e66_18, e66_19, e66_20, e66_21, e66_22, e66_25, e66_28, e66_31, e66_34, e66_35, m66, ↓reduceIte, qg_0, qg_1, qg_2, qg_3, qg_4, qg_5, qg_6, qg_7, qg_8, qg_9, qg_10, qg_11, qg_12, qg_13, not_true_eq_false, not_false_eq_true, Nat.reduceBEq, Bool.false_eq_true, ex1, ex3, ex4, exF, qfit_i, qfit_l, qfit_r, qfit_n, qfit_b0, qfit_b1, qcat_i, qcat_r, qcat_n, qcat_l, qroom_0, qroom_c, List.map_cons, List.map_nil, List.sum_cons, List.sum_nil, Nat.reduceAdd, Nat.reduceMul, Nat.reduceLT, Nat.reduceLeDiff, Nat.reduceEqDiff, Nat.reduceSub, decide_true, true_and, and_true, and_self, if_true, if_false, Option.toList_some, Option.toList_none, List.cons_append, List.nil_append, qsL, qlong, List.length_cons, List.length_nil, iN_L, exI, iN_add, iN_mul, iN_le, iN_lt, iN_eq, Nat.le_refl, qfN0, qfN1, uX_16, vX_16, uX_19, vX_19, uX_27, vX_27, uX_30, vX_30, uX_39, vX_39, uX_41, vX_41, uX_43, vX_43, uX_46, vX_46, uX_50, vX_50, uX_53, vX_53, gX_39_2, m2, show ¬ ss.length ≤ t by omega, gX_39_1, rX_40, q1, iN_wo', e]
  · try dsimp only
    rw [e66_4]
    simp (disch := first | assumption | omega) only [e66_0, e66_1, e66_2, e66_3, e66_5, e66_6, e66_9, e66_12, e66_13, e66_14, e66_17, e66_18, e66_19, e66_20, e66_21, e66_22, e66_25, e66_28, e66_31, e66_34, e66_35, m66, ↓reduceIte, qg_0, qg_1, qg_2, qg_3, qg_4, qg_5, qg_6, qg_7, qg_8, qg_9, qg_10, qg_11, qg_12, qg_13, not_true_eq_false, not_false_eq_true, Nat.reduceBEq, Bool.false_eq_true, ex1, ex3, ex4, exF, qfit_i, qfit_l, qfit_r, qfit_n, qfit_b0, qfit_b1, qcat_i, qcat_r, qcat_n, qcat_l, qroom_0, qroom_c, List.map_cons, List.map_nil, List.sum_cons, List.sum_nil, Nat.reduceAdd, Nat.reduceMul, Nat.reduceLT, Nat.reduceLeDiff, Nat.reduceEqDiff, Nat.reduceSub, decide_true, true_and, and_true, and_self, if_true, if_false, Option.toList_some, Option.toList_none, List.cons_append, List.nil_append, qsL, qlong, List.length_cons, List.length_nil, iN_L, exI, iN_add, iN_mul, iN_le, iN_lt, iN_eq, Nat.le_refl, qfN0, qfN1, uX_16, vX_16, uX_19, vX_19, uX_27, vX_27, uX_30, vX_30, uX_39, vX_39, uX_41, vX_41, uX_43, vX_43, uX_46, vX_46, uX_50, vX_50, uX_53, vX_53, gX_39_2, m2]
/-- all marks are used -/
def orA (ss : List Nat) : Nat → Nat
  | 0 => 0
  | t + 1 => orA ss t ||| ss.getD t 0
theorem orA_bit {c : Nat} : ∀ {t : Nat}, (orA ss t).testBit c = anyN (fun k => (ss.getD k 0).testBit c) t
  | 0 => by rw [orA, Nat.zero_testBit]; rfl
  | t + 1 => by rw [orA, Nat.testBit_or, orA_bit (t := t)]; rfl
theorem orA_lt (hs : ∀ k, k < ss.length → ss.getD k 0 < 2 ^ n) : ∀ t, t ≤ ss.length → orA ss t < 2 ^ n
  | 0, _ => Nat.two_pow_pos n
  | t + 1, ht => Nat.or_lt_two_pow (orA_lt hs t (by omega)) (hs t (by omega))
theorem ly_one {c t : Nat} : lyB ss (2 ^ c) t = (ss.getD t 0).testBit c := by
  unfold lyB
  by_cases q : (ss.getD t 0).testBit c = true
  · rw [q]
    refine decide_eq_true (wo_zero.mpr ?_)
    apply Nat.eq_of_testBit_eq
    intro i
    rw [Nat.testBit_and, Nat.testBit_two_pow]
    by_cases e : c = i
    · rw [decide_eq_true e, ← e, q]; rfl
    · rw [decide_eq_false e]; rfl
  · have q' : (ss.getD t 0).testBit c = false := by cases z : (ss.getD t 0).testBit c with
      | false => rfl
      | true => exact absurd z q
    rw [q']
    refine decide_eq_false fun z => ?_
    have := congrArg (fun y => y.testBit c) (wo_zero.mp z)
    simp only [Nat.testBit_and, Nat.testBit_two_pow_self, q', Bool.and_false] at this
    cases this
theorem orA_all (hs : ∀ k, k < ss.length → ss.getD k 0 < 2 ^ n) : decide (orA ss ss.length = 2 ^ n - 1) = allN (fun c => anyN (lyB ss (2 ^ c)) ss.length) n := by
  rw [Bool.eq_iff_iff, decide_eq_true_eq, allN_iff]
  have ex : ∀ c, anyN (lyB ss (2 ^ c)) ss.length = (orA ss ss.length).testBit c := fun c => by
    rw [orA_bit]
    exact congrArg (fun f => anyN f ss.length) (funext fun t => ly_one)
  constructor
  · intro e c hc
    rw [ex, e, Nat.testBit_two_pow_sub_one, decide_eq_true hc]
  · intro hall
    apply Nat.eq_of_testBit_eq
    intro i
    rw [Nat.testBit_two_pow_sub_one]
    by_cases hi' : i < n
    · rw [decide_eq_true hi', ← ex]; exact hall i hi'
    · rw [decide_eq_false hi']
      exact Nat.testBit_lt_two_pow (Nat.lt_of_lt_of_le (orA_lt hs _ (Nat.le_refl _)) (Nat.pow_le_pow_right (by decide) (by omega)))
set_option maxRecDepth 100000 in
set_option maxHeartbeats 16000000 in
theorem x_usesAll (s : ShX h) (v : PaX h n ss) (R : qRes) : qMC (d + 1) 65 [.ref 39] h R ↔ R = (some (.int (bB (allN (fun c => anyN (lyB ss (2 ^ c)) ss.length) n))), h) := by
  have n12 := v.1
  have p12 := pw12 v.1.2
  have pp := Nat.two_pow_pos n
  have l24 := v.2.1
  have m0 := v.2.2.1
  have m2 := v.2.2.2.1
  have hs : ∀ k, k < ss.length → ss.getD k 0 < 2 ^ n := fun k hk => (v.at hk).2.2.2
  have e1 : iN 1 <<< (iN n &&& iN 31) - iN 1 = iN (2 ^ n - 1) := by rw [iN_shl1 n (by omega), iN_sub (by omega)]
  have r0 : qMC (d + 1) 65 [.ref 39] h R ↔ qEv d 3 qk_65 4 [some (.ref 39), some (.int (iN (orA ss 0))), some (.int (iN 0))] [] h R := by
    rw [show orA ss 0 = 0 from rfl]
    simp (disch := first | assumption | omega) only [e65_0, e65_1, e65_2, e65_3, e65_5, e65_6, e65_9, e65_12, e65_13, e65_14, e65_17, e65_18, e65_19, e65_20, e65_21, e65_24, e65_27, e65_28, e65_29, e65_30, e65_33, e65_34, e65_35, e65_36, e65_39, e65_40, e65_43, e65_44, m65, ↓reduceIte, qg_0, qg_1, qg_2, qg_3, qg_4, qg_5, qg_6, qg_7, qg_8, qg_9, qg_10, qg_11, qg_12, qg_13, not_true_eq_false, not_false_eq_true, Nat.reduceBEq, Bool.false_eq_true, ex1, ex3, ex4, exF, qfit_i, qfit_l, qfit_r, qfit_n, qfit_b0, qfit_b1, qcat_i, qcat_r, qcat_n, qcat_l, qroom_0, qroom_c, List.map_cons, List.map_nil, List.sum_cons, List.sum_nil, Nat.reduceAdd, Nat.reduceMul, Nat.reduceLT, Nat.reduceLeDiff, Nat.reduceEqDiff, Nat.reduceSub, decide_true, true_and, and_true, and_self, if_true, if_false, Option.toList_some, Option.toList_none, List.cons_append, List.nil_append, qsL, qlong, List.length_cons, List.length_nil, iN_L, exI, iN_add, iN_mul, iN_le, iN_lt, iN_eq, Nat.le_refl, qfN0, qfN1, uX_16, vX_16, uX_19, vX_19, uX_27, vX_27, uX_30, vX_30, uX_39, vX_39, uX_41, vX_41, uX_43, vX_43, uX_46, vX_46, uX_50, vX_50, uX_53, vX_53]
  rw [r0]
  refine Iff.trans (loop_up (n := ss.length) (L := fun t => [some (.ref 39), some (.int (iN (orA ss t))), some (.int (iN t))]) (H := fun _ => h) ?_) ?_
  · intro t ht
    try dsimp only
    obtain ⟨q1, q2, q3, -⟩ := v.at ht
    rw [e65_4, orA]
    simp (disch := first | assumption | omega) only [e65_0, e65_1, e65_2, e65_3, e65_5, e65_6, e65_9, e65_12, e65_13, e65_14, e65_17, e65_18, e65_19, e65_20, e65_21, e65_24, e65_27, e65_28, e65_29, e65_30, e65_33, e65_34, e65_35, e65_36, e65_39, e65_40, e65_43, e65_44, m65, ↓reduceIte, qg_0, qg_1, qg_2, qg_3, qg_4, qg_5, qg_6, qg_7, qg_8, qg_9, qg_10, qg_11, qg_12, qg_13, not_true_eq_false, not_false_eq_true, Nat.reduceBEq, Bool.false_eq_true, ex1, ex3, ex4, exF, qfit_i, qfit_l, qfit_r, qfit_n, qfit_b0, qfit_b1, qcat_i, qcat_r, qcat_n, qcat_l, qroom_0, qroom_c, List.map_cons, List.map_nil, List.sum_cons, List.sum_nil, Nat.reduceAdd, Nat.reduceMul, Nat.reduceLT, Nat.reduceLeDiff, Nat.reduceEqDiff, Nat.reduceSub, decide_true, true_and, and_true, and_self, if_true, if_false, Option.toList_some, Option.toList_none, List.cons_append, List.nil_append, qsL, qlong, List.length_cons, List.length_nil, iN_L, exI, iN_add, iN_mul, iN_le, iN_lt, iN_eq, Nat.le_refl, qfN0, qfN1, uX_16, vX_16, uX_19, vX_19, uX_27, vX_27, uX_30, vX_30, uX_39, vX_39, uX_41, vX_41, uX_43, vX_43, uX_46, vX_46, uX_50, vX_50, uX_53, vX_53, gX_39_2, m2, show ¬ ss.length ≤ t by omega, gX_39_1, rX_40, q1, iN_or]
  · try dsimp only
    have ol := orA_lt hs ss.length (Nat.le_refl _)
    rw [e65_4, ← orA_all hs]
    by_cases q : orA ss ss.length = 2 ^ n - 1
    · rw [decide_eq_true q, bN_t]
      simp (disch := first | assumption | omega) only [e65_0, e65_1, e65_2, e65_3, e65_5, e65_6, e65_9, e65_12, e65_13, e65_14, e65_17, e65_18, e65_19, e65_20, e65_21, e65_24, e65_27, e65_28, e65_29, e65_30, e65_33, e65_34, e65_35, e65_36, e65_39, e65_40, e65_43, e65_44, m65, ↓reduceIte, qg_0, qg_1, qg_2, qg_3, qg_4, qg_5, qg_6, qg_7, qg_8, qg_9, qg_10, qg_11, qg_12, qg_13, not_true_eq_false, not_false_eq_true, Nat.reduceBEq, Bool.false_eq_true, ex1, ex3, ex4, exF, qfit_i, qfit_l, qfit_r, qfit_n, qfit_b0, qfit_b1, qcat_i, qcat_r, qcat_n, qcat_l, qroom_0, qroom_c, List.map_cons, List.map_nil, List.sum_cons, List.sum_nil, Nat.reduceAdd, Nat.reduceMul, Nat.reduceLT, Nat.reduceLeDiff, Nat.reduceEqDiff, Nat.reduceSub, decide_true, true_and, and_true, and_self, if_true, if_false, Option.toList_some, Option.toList_none, List.cons_append, List.nil_append, qsL, qlong, List.length_cons, List.length_nil, iN_L, exI, iN_add, iN_mul, iN_le, iN_lt, iN_eq, Nat.le_refl, qfN0, qfN1, uX_16, vX_16, uX_19, vX_19, uX_27, vX_27, uX_30, vX_30, uX_39, vX_39, uX_41, vX_41, uX_43, vX_43, uX_46, vX_46, uX_50, vX_50, uX_53, vX_53, gX_39_2, m2, gX_39_0, m0, e1, q]
    · rw [decide_eq_false q, bN_f]
      simp (disch := first | assumption | omega) only [e65_0, e65_1, e65_2, e65_3, e65_5, e65_6, e65_9, e65_12, e65_13, e65_14, e65_17, e65_18, e65_19, e65_20, e65_21, e65_24, e65_27, e65_28, e65_29, e65_30, e65_33, e65_34, e65_35, e65_36, e65_39, e65_40, e65_43, e65_44, m65, ↓reduceIte, qg_0, qg_1, qg_2, qg_3, qg_4, qg_5, qg_6, qg_7, qg_8, qg_9, qg_10, qg_11, qg_12, qg_13, not_true_eq_false, not_false_eq_true, Nat.reduceBEq, Bool.false_eq_true, ex1, ex3, ex4, exF, qfit_i, qfit_l, qfit_r, qfit_n, qfit_b0, qfit_b1, qcat_i, qcat_r, qcat_n, qcat_l, qroom_0, qroom_c, List.map_cons, List.map_nil, List.sum_cons, List.sum_nil, Nat.reduceAdd, Nat.reduceMul, Nat.reduceLT, Nat.reduceLeDiff, Nat.reduceEqDiff, Nat.reduceSub, decide_true, true_and, and_true, and_self, if_true, if_false, Option.toList_some, Option.toList_none, List.cons_append, List.nil_append, qsL, qlong, List.length_cons, List.length_nil, iN_L, exI, iN_add, iN_mul, iN_le, iN_lt, iN_eq, Nat.le_refl, qfN0, qfN1, uX_16, vX_16, uX_19, vX_19, uX_27, vX_27, uX_30, vX_30, uX_39, vX_39, uX_41, vX_41, uX_43, vX_43, uX_46, vX_46, uX_50, vX_50, uX_53, vX_53, gX_39_2, m2, gX_39_0, m0, e1, q]
theorem all_f {p : Nat → Bool} {m k : Nat} (hk : k < m) (hp : p k = false) : allN p m = false := by
  cases e : allN p m with
  | false => rfl
  | true => rw [allN_iff.mp e k hk] at hp; cases hp
theorem stL_16 {m : Nat} {ms : List Nat} (hm : inL (m :: ms)) : stL (m :: ms) < 65536 := stL_lt hm
set_option maxRecDepth 100000 in
set_option maxHeartbeats 16000000 in
theorem x_inTwo (s : ShX h) (v : PaX h n ss) (R : qRes) : qMC (d + 2) 67 [.ref 39] h R ↔ R = (some (.int (bB (twB ss n))), h) := by
  have n12 := v.1
  have p12 := pw12 v.1.2
  have l24 := v.2.1
  have m2 := v.2.2.2.1
  have sa : ∀ x, x < 65536 → ∀ R, qMC (d + 1) 66 [.ref 39, .int (iN x)] h R ↔ R = (some (.int (iN (cntN (lyB ss x) ss.length))), h) := fun x hx R => x_setsAround s v hx R
  have inner : ∀ (k : Nat) (ms : List Nat), k < ss.length → inL ms → (∀ c, c ∈ ms → (ss.getD k 0).testBit c = true) → ((∀ c, c ∈ ms → twC ss k c = true) → (qEv (d + 1) 3 qk_67 17 [some (.ref 39), some (.int (iN k)), some (.int (iN (stL ms)))] [] h R ↔ qEv (d + 1) 3 qk_67 2 [some (.ref 39), some (.int (iN (k + 1))), some (.int (iN 0))] [] h R)) ∧ ((∃ c, c ∈ ms ∧ twC ss k c = false) → (qEv (d + 1) 3 qk_67 17 [some (.ref 39), some (.int (iN k)), some (.int (iN (stL ms)))] [] h R ↔ R = (some (.int (iN 0)), h))) := by
    intro k ms hk
    obtain ⟨q1, q2, q3, -⟩ := v.at hk
    induction ms with
    | nil =>
      intro _ _
      refine ⟨fun _ => ?_, fun z => by obtain ⟨c, z, -⟩ := z; cases z⟩
      rw [e67_17]
      simp (disch := first | assumption | omega) only [e67_0, e67_1, e67_3, e67_4, e67_7, e67_10, e67_11, e67_14, e67_15, e67_16, e67_18, e67_21, e67_22, e67_23, e67_26, e67_27, e67_28, e67_29, e67_30, e67_31, e67_32, e67_33, e67_34, e67_35, e67_38, e67_39, e67_42, e67_43, e67_44, e67_45, e67_46, e67_47, e67_48, e67_49, e67_50, e67_53, e67_56, e67_59, e67_60, m67, ↓reduceIte, qg_0, qg_1, qg_2, qg_3, qg_4, qg_5, qg_6, qg_7, qg_8, qg_9, qg_10, qg_11, qg_12, qg_13, not_true_eq_false, not_false_eq_true, Nat.reduceBEq, Bool.false_eq_true, ex1, ex3, ex4, exF, qfit_i, qfit_l, qfit_r, qfit_n, qfit_b0, qfit_b1, qcat_i, qcat_r, qcat_n, qcat_l, qroom_0, qroom_c, List.map_cons, List.map_nil, List.sum_cons, List.sum_nil, Nat.reduceAdd, Nat.reduceMul, Nat.reduceLT, Nat.reduceLeDiff, Nat.reduceEqDiff, Nat.reduceSub, decide_true, true_and, and_true, and_self, if_true, if_false, Option.toList_some, Option.toList_none, List.cons_append, List.nil_append, qsL, qlong, List.length_cons, List.length_nil, iN_L, exI, iN_add, iN_mul, iN_le, iN_lt, iN_eq, Nat.le_refl, qfN0, qfN1, uX_16, vX_16, uX_19, vX_19, uX_27, vX_27, uX_30, vX_30, uX_39, vX_39, uX_41, vX_41, uX_43, vX_43, uX_46, vX_46, uX_50, vX_50, uX_53, vX_53, stL_nil]
      exact Iff.rfl
    | cons m ms ih =>
      intro hi' hb
      have m16 := hi'.hd
      have bm := hb m List.mem_cons_self
      obtain ⟨i1, i2⟩ := ih hi'.tl (fun c hc => hb c (List.mem_cons_of_mem _ hc))
      have sl := stL_low hi'
      have sd := stL_drop hi'
      have sn := stL_ne hi'
      have st := stL_16 hi'
      have wl := wo_le (ss.getD k 0) (2 ^ m)
      have sk := sa (wo (ss.getD k 0) (2 ^ m)) (by omega)
      have cb := cntN_le (p := lyB ss (wo (ss.getD k 0) (2 ^ m))) (n := ss.length)
      have et : twC ss k m = decide (cntN (lyB ss (wo (ss.getD k 0) (2 ^ m))) ss.length = 2) := by unfold twC; rw [bm]; rfl
      by_cases q : cntN (lyB ss (wo (ss.getD k 0) (2 ^ m))) ss.length = 2
      · have st' : qEv (d + 1) 3 qk_67 17 [some (.ref 39), some (.int (iN k)), some (.int (iN (stL (m :: ms))))] [] h R ↔ qEv (d + 1) 3 qk_67 17 [some (.ref 39), some (.int (iN k)), some (.int (iN (stL ms)))] [] h R := by
          rw [e67_17]
          simp (disch := first | assumption | omega) only [e67_0, e67_1, e67_2, e67_3, e67_4, e67_7, e67_10, e67_11, e67_14, e67_15, e67_16, e67_18, e67_21, e67_22, e67_23, e67_26, e67_27, e67_28, e67_29, e67_30, e67_31, e67_32, e67_33, e67_34, e67_35, e67_38, e67_39, e67_42, e67_43, e67_44, e67_45, e67_46, e67_47, e67_48, e67_49, e67_50, e67_53, e67_56, e67_59, e67_60, m67, ↓reduceIte, qg_0, qg_1, qg_2, qg_3, qg_4, qg_5, qg_6, qg_7, qg_8, qg_9, qg_10, qg_11, qg_12, qg_13, not_true_eq_false, not_false_eq_true, Nat.reduceBEq, Bool.false_eq_true, ex1, ex3, ex4, exF, qfit_i, qfit_l, qfit_r, qfit_n, qfit_b0, qfit_b1, qcat_i, qcat_r, qcat_n, qcat_l, qroom_0, qroom_c, List.map_cons, List.map_nil, List.sum_cons, List.sum_nil, Nat.reduceAdd, Nat.reduceMul, Nat.reduceLT, Nat.reduceLeDiff, Nat.reduceEqDiff, Nat.reduceSub, decide_true, true_and, and_true, and_self, if_true, if_false, Option.toList_some, Option.toList_none, List.cons_append, List.nil_append, qsL, qlong, List.length_cons, List.length_nil, iN_L, exI, iN_add, iN_mul, iN_le, iN_lt, iN_eq, Nat.le_refl, qfN0, qfN1, uX_16, vX_16, uX_19, vX_19, uX_27, vX_27, uX_30, vX_30, uX_39, vX_39, uX_41, vX_41, uX_43, vX_43, uX_46, vX_46, uX_50, vX_50, uX_53, vX_53, sn, gX_39_1, rX_40, q1, sl, iN_wo', sk, q, sd]
        rw [st']
        refine ⟨fun z => i1 fun c hc => z c (List.mem_cons_of_mem _ hc), fun z => i2 ?_⟩
        obtain ⟨c, c1, c2⟩ := z
        rcases List.mem_cons.mp c1 with e | e
        · rw [e, et, decide_eq_true q] at c2; cases c2
        · exact ⟨c, e, c2⟩
      · refine ⟨fun z => ?_, fun _ => ?_⟩
        · have := z m List.mem_cons_self
          rw [et, decide_eq_false q] at this; cases this
        · rw [e67_17]
          simp (disch := first | assumption | omega) only [e67_0, e67_1, e67_2, e67_3, e67_4, e67_7, e67_10, e67_11, e67_14, e67_15, e67_16, e67_18, e67_21, e67_22, e67_23, e67_26, e67_27, e67_28, e67_29, e67_30, e67_31, e67_32, e67_33, e67_34, e67_35, e67_38, e67_39, e67_42, e67_43, e67_44, e67_45, e67_46, e67_47, e67_48, e67_49, e67_50, e67_53, e67_56, e67_59, e67_60, m67, ↓reduceIte, qg_0, qg_1, qg_2, qg_3, qg_4, qg_5, qg_6, qg_7, qg_8, qg_9, qg_10, qg_11, qg_12, qg_13, not_true_eq_false, not_false_eq_true, Nat.reduceBEq, Bool.false_eq_true, ex1, ex3, ex4, exF, qfit_i, qfit_l, qfit_r, qfit_n, qfit_b0, qfit_b1, qcat_i, qcat_r, qcat_n, qcat_l, qroom_0, qroom_c, List.map_cons, List.map_nil, List.sum_cons, List.sum_nil, Nat.reduceAdd, Nat.reduceMul, Nat.reduceLT, Nat.reduceLeDiff, Nat.reduceEqDiff, Nat.reduceSub, decide_true, true_and, and_true, and_self, if_true, if_false, Option.toList_some, Option.toList_none, List.cons_append, List.nil_append, qsL, qlong, List.length_cons, List.length_nil, iN_L, exI, iN_add, iN_mul, iN_le, iN_lt, iN_eq, Nat.le_refl, qfN0, qfN1, uX_16, vX_16, uX_19, vX_19, uX_27, vX_27, uX_30, vX_30, uX_39, vX_39, uX_41, vX_41, uX_43, vX_43, uX_46, vX_46, uX_50, vX_50, uX_53, vX_53, sn, gX_39_1, rX_40, q1, sl, iN_wo', sk, q]
  have tw : ∀ k, k < ss.length → (twA ss n k = true ↔ ∀ c, c ∈ mems (ss.getD k 0) → twC ss k c = true) := by
    intro k hk
    obtain ⟨q1, q2, q3, q4⟩ := v.at hk
    unfold twA
    rw [allN_iff]
    constructor
    · intro z c hc
      have hb := (mem_mems (by omega)).mp hc
      refine z c ?_
      rcases Nat.lt_or_ge c n with w | w
      · exact w
      · rw [Nat.testBit_lt_two_pow (Nat.lt_of_lt_of_le q4 (Nat.pow_le_pow_right (by decide) w))] at hb; cases hb
    · intro z c hc
      cases e : (ss.getD k 0).testBit c with
      | false => unfold twC; rw [e]; rfl
      | true => exact z c ((mem_mems (by omega)).mpr e)
  have go : ∀ (w k : Nat) (x2 : Option Value), k + w = ss.length → (∀ t, t < k → twA ss n t = true) → (qEv (d + 1) 3 qk_67 2 [some (.ref 39), some (.int (iN k)), x2] [] h R ↔ R = (some (.int (bB (twB ss n))), h)) := by
    intro w
    induction w with
    | zero =>
      intro k x2 hk hn
      have : twB ss n = true := allN_iff.mpr fun t ht => hn t (by omega)
      rw [this, bN_t, e67_2]
      simp (disch := first | assumption | omega) only [e67_0, e67_1, e67_3, e67_4, e67_7, e67_10, e67_11, e67_14, e67_15, e67_16, e67_17, e67_18, e67_21, e67_22, e67_23, e67_26, e67_27, e67_28, e67_29, e67_30, e67_31, e67_32, e67_33, e67_34, e67_35, e67_38, e67_39, e67_42, e67_43, e67_44, e67_45, e67_46, e67_47, e67_48, e67_49, e67_50, e67_53, e67_56, e67_59, e67_60, m67, ↓reduceIte, qg_0, qg_1, qg_2, qg_3, qg_4, qg_5, qg_6, qg_7, qg_8, qg_9, qg_10, qg_11, qg_12, qg_13, not_true_eq_false, not_false_eq_true, Nat.reduceBEq, Bool.false_eq_true, ex1, ex3, ex4, exF, qfit_i, qfit_l, qfit_r, qfit_n, qfit_b0, qfit_b1, qcat_i, qcat_r, qcat_n, qcat_l, qroom_0, qroom_c, List.map_cons, List.map_nil, List.sum_cons, List.sum_nil, Nat.reduceAdd, Nat.reduceMul, Nat.reduceLT, Nat.reduceLeDiff, Nat.reduceEqDiff, Nat.reduceSub, decide_true, true_and, and_true, and_self, if_true, if_false, Option.toList_some, Option.toList_none, List.cons_append, List.nil_append, qsL, qlong, List.length_cons, List.length_nil, iN_L, exI, iN_add, iN_mul, iN_le, iN_lt, iN_eq, Nat.le_refl, qfN0, qfN1, uX_16, vX_16, uX_19, vX_19, uX_27, vX_27, uX_30, vX_30, uX_39, vX_39, uX_41, vX_41, uX_43, vX_43, uX_46, vX_46, uX_50, vX_50, uX_53, vX_53, gX_39_2, m2, show ss.length ≤ k by omega]
    | succ w ih =>
      intro k x2 hk hn
      have hk' : k < ss.length := by omega
      obtain ⟨q1, q2, q3, q4⟩ := v.at hk'
      have st : qEv (d + 1) 3 qk_67 2 [some (.ref 39), some (.int (iN k)), x2] [] h R ↔ qEv (d + 1) 3 qk_67 17 [some (.ref 39), some (.int (iN k)), some (.int (iN (stL (mems (ss.getD k 0)))))] [] h R := by
        rw [stL_mems (by omega), e67_2]
        simp (disch := first | assumption | omega) only [e67_0, e67_1, e67_3, e67_4, e67_7, e67_10, e67_11, e67_14, e67_15, e67_16, e67_18, e67_21, e67_22, e67_23, e67_26, e67_27, e67_28, e67_29, e67_30, e67_31, e67_32, e67_33, e67_34, e67_35, e67_38, e67_39, e67_42, e67_43, e67_44, e67_45, e67_46, e67_47, e67_48, e67_49, e67_50, e67_53, e67_56, e67_59, e67_60, m67, ↓reduceIte, qg_0, qg_1, qg_2, qg_3, qg_4, qg_5, qg_6, qg_7, qg_8, qg_9, qg_10, qg_11, qg_12, qg_13, not_true_eq_false, not_false_eq_true, Nat.reduceBEq, Bool.false_eq_true, ex1, ex3, ex4, exF, qfit_i, qfit_l, qfit_r, qfit_n, qfit_b0, qfit_b1, qcat_i, qcat_r, qcat_n, qcat_l, qroom_0, qroom_c, List.map_cons, List.map_nil, List.sum_cons, List.sum_nil, Nat.reduceAdd, Nat.reduceMul, Nat.reduceLT, Nat.reduceLeDiff, Nat.reduceEqDiff, Nat.reduceSub, decide_true, true_and, and_true, and_self, if_true, if_false, Option.toList_some, Option.toList_none, List.cons_append, List.nil_append, qsL, qlong, List.length_cons, List.length_nil, iN_L, exI, iN_add, iN_mul, iN_le, iN_lt, iN_eq, Nat.le_refl, qfN0, qfN1, uX_16, vX_16, uX_19, vX_19, uX_27, vX_27, uX_30, vX_30, uX_39, vX_39, uX_41, vX_41, uX_43, vX_43, uX_46, vX_46, uX_50, vX_50, uX_53, vX_53, gX_39_2, m2, show ¬ ss.length ≤ k by omega, gX_39_1, rX_40, q1]
      rw [st]
      obtain ⟨i1, i2⟩ := inner k (mems (ss.getD k 0)) hk' (mems_in _) (fun c hc => (mem_mems (by omega)).mp hc)
      cases q : twA ss n k with
      | true =>
        rw [i1 ((tw k hk').mp q)]
        exact ih (k + 1) _ (by omega) (fun t ht => by
          rcases Nat.lt_or_ge t k with z | z
          · exact hn t z
          · rw [show t = k by omega]; exact q)
      | false =>
        have : ∃ c, c ∈ mems (ss.getD k 0) ∧ twC ss k c = false := by
          apply Classical.byContradiction
          intro z
          have : twA ss n k = true := (tw k hk').mpr fun c hc => by
            cases e : twC ss k c with
            | true => rfl
            | false => exact absurd ⟨c, hc, e⟩ z
          rw [this] at q; cases q
        rw [i2 this, show twB ss n = false from all_f hk' q]
        exact Iff.rfl
  have r0 : qMC (d + 2) 67 [.ref 39] h R ↔ qEv (d + 1) 3 qk_67 2 [some (.ref 39), some (.int (iN 0)), none] [] h R := by
    simp (disch := first | assumption | omega) only [e67_0, e67_1, e67_3, e67_4, e67_7, e67_10, e67_11, e67_14, e67_15, e67_16, e67_17, e67_18, e67_21, e67_22, e67_23, e67_26, e67_27, e67_28, e67_29, e67_30, e67_31, e67_32, e67_33, e67_34, e67_35, e67_38, e67_39, e67_42, e67_43, e67_44, e67_45, e67_46, e67_47, e67_48, e67_49, e67_50, e67_53, e67_56, e67_59, e67_60, m67, ↓reduceIte, qg_0, qg_1, qg_2, qg_3, qg_4, qg_5, qg_6, qg_7, qg_8, qg_9, qg_10, qg_11, qg_12, qg_13, not_true_eq_false, not_false_eq_true, Nat.reduceBEq, Bool.false_eq_true, ex1, ex3, ex4, exF, qfit_i, qfit_l, qfit_r, qfit_n, qfit_b0, qfit_b1, qcat_i, qcat_r, qcat_n, qcat_l, qroom_0, qroom_c, List.map_cons, List.map_nil, List.sum_cons, List.sum_nil, Nat.reduceAdd, Nat.reduceMul, Nat.reduceLT, Nat.reduceLeDiff, Nat.reduceEqDiff, Nat.reduceSub, decide_true, true_and, and_true, and_self, if_true, if_false, Option.toList_some, Option.toList_none, List.cons_append, List.nil_append, qsL, qlong, List.length_cons, List.length_nil, iN_L, exI, iN_add, iN_mul, iN_le, iN_lt, iN_eq, Nat.le_refl, qfN0, qfN1, uX_16, vX_16, uX_19, vX_19, uX_27, vX_27, uX_30, vX_30, uX_39, vX_39, uX_41, vX_41, uX_43, vX_43, uX_46, vX_46, uX_50, vX_50, uX_53, vX_53]
  rw [r0]
  exact go ss.length 0 _ (by omega) (fun t ht => absurd ht (Nat.not_lt_zero t))
end XPLAN

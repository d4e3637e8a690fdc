/-! ===== THE CLASS: THE ROW, THE PATTERN told ===== -/
section XROW
variable {d : Nat} {h : qH}
theorem mem_at {r : List Nat} {k : Nat} : k ∈ r ↔ ∃ t, t < r.length ∧ r.getD t 0 = k := by
  constructor
  · intro hk
    obtain ⟨t, ht, e⟩ := List.getElem_of_mem hk
    exact ⟨t, ht, by rw [List.getD_eq_getElem?_getD, List.getElem?_eq_getElem ht]; exact e⟩
  · rintro ⟨t, ht, rfl⟩
    rw [List.getD_eq_getElem?_getD, List.getElem?_eq_getElem ht]
    exact List.getElem_mem ht
theorem int_N {x : Int32} {b : Nat} (hb : b < 1000000) : (∃ k, k ≤ b ∧ x = iN k) ↔ (0 ≤ x.toInt ∧ x.toInt ≤ (b : Int)) := by
  constructor
  · rintro ⟨k, hk, rfl⟩
    rw [iN_int (by omega)]; omega
  · rintro ⟨h1, h2⟩
    refine ⟨x.toInt.toNat, by omega, ?_⟩
    rw [← Int32.toInt_inj, iN_int (by omega)]
    omega
theorem ltN_0 {x : Int32} : x < iN 0 ↔ x.toInt < 0 := by rw [lt_N (b := 0) (by omega)]; rfl
set_option maxRecDepth 100000 in
theorem x_has {r : List Nat} {k : Nat} {R : qRes} (s : ShX h) (rv : RwX h r) (hk : k < 200) : qMC (d + 1) 5 [.ref 41, .int (iN k)] h R ↔ R = (some (.int (bB (decide (k ∈ r)))), h) := by
  obtain ⟨r1, r2, r3⟩ := rv
  have go : ∀ (w j : Nat), j + w = r.length → (∀ t, t < j → r.getD t 0 ≠ k) → (qEv d 3 qk_5 2 [some (.ref 41), some (.int (iN k)), some (.int (iN j))] [] h R ↔ R = (some (.int (bB (decide (k ∈ r)))), h)) := by
    intro w
    induction w with
    | zero =>
      intro j hj hn
      have nm : ¬ k ∈ r := fun z => by
        obtain ⟨t, t1, t2⟩ := mem_at.mp z
        exact hn t (by omega) t2
      rw [decide_eq_false nm, bN_f, e5_2]
      simp (disch := first | assumption | omega) only [e5_0, e5_1, e5_3, e5_4, e5_7, e5_10, e5_11, e5_14, e5_15, e5_16, e5_17, e5_20, e5_21, e5_22, e5_25, e5_28, e5_29, m5, ↓reduceIte, qg_0, qg_1, qg_2, qg_3, qg_4, qg_5, qg_6, qg_7, qg_8, qg_9, qg_10, qg_11, qg_12, qg_13, not_true_eq_false, not_false_eq_true, Nat.reduceBEq, Bool.false_eq_true, ex1, ex3, ex4, exF, qfit_i, qfit_l, qfit_r, qfit_n, qfit_b0, qfit_b1, qcat_i, qcat_r, qcat_n, qcat_l, qroom_0, qroom_c, List.map_cons, List.map_nil, List.sum_cons, List.sum_nil, Nat.reduceAdd, Nat.reduceMul, Nat.reduceLT, Nat.reduceLeDiff, Nat.reduceEqDiff, Nat.reduceSub, decide_true, true_and, and_true, and_self, if_true, if_false, Option.toList_some, Option.toList_none, List.cons_append, List.nil_append, qsL, qlong, List.length_cons, List.length_nil, iN_L, exI, iN_add, iN_mul, iN_le, iN_lt, iN_eq, Nat.le_refl, qfN0, qfN1, uX_16, vX_16, uX_19, vX_19, uX_27, vX_27, uX_30, vX_30, uX_39, vX_39, uX_41, vX_41, uX_43, vX_43, uX_46, vX_46, uX_50, vX_50, uX_53, vX_53, gX_41_1, r2, show r.length ≤ j by omega]
    | succ w ih =>
      intro j hj hn
      obtain ⟨v1, v2⟩ := r3 j (by omega)
      by_cases q : r.getD j 0 = k
      · have mm : k ∈ r := mem_at.mpr ⟨j, by omega, q⟩
        rw [decide_eq_true mm, bN_t, e5_2]
        simp (disch := first | assumption | omega) only [e5_0, e5_1, e5_3, e5_4, e5_7, e5_10, e5_11, e5_14, e5_15, e5_16, e5_17, e5_20, e5_21, e5_22, e5_25, e5_28, e5_29, m5, ↓reduceIte, qg_0, qg_1, qg_2, qg_3, qg_4, qg_5, qg_6, qg_7, qg_8, qg_9, qg_10, qg_11, qg_12, qg_13, not_true_eq_false, not_false_eq_true, Nat.reduceBEq, Bool.false_eq_true, ex1, ex3, ex4, exF, qfit_i, qfit_l, qfit_r, qfit_n, qfit_b0, qfit_b1, qcat_i, qcat_r, qcat_n, qcat_l, qroom_0, qroom_c, List.map_cons, List.map_nil, List.sum_cons, List.sum_nil, Nat.reduceAdd, Nat.reduceMul, Nat.reduceLT, Nat.reduceLeDiff, Nat.reduceEqDiff, Nat.reduceSub, decide_true, true_and, and_true, and_self, if_true, if_false, Option.toList_some, Option.toList_none, List.cons_append, List.nil_append, qsL, qlong, List.length_cons, List.length_nil, iN_L, exI, iN_add, iN_mul, iN_le, iN_lt, iN_eq, Nat.le_refl, qfN0, qfN1, uX_16, vX_16, uX_19, vX_19, uX_27, vX_27, uX_30, vX_30, uX_39, vX_39, uX_41, vX_41, uX_43, vX_43, uX_46, vX_46, uX_50, vX_50, uX_53, vX_53, gX_41_1, r2, show ¬ r.length ≤ j by omega, gX_41_0, rX_42, v1, q]
      · rw [← ih (j + 1) (by omega) (fun t ht => by
          rcases Nat.lt_or_ge t j with z | z
          · exact hn t z
          · rw [show t = j by omega]; exact q), e5_2]
        simp (disch := first | assumption | omega) only [e5_0, e5_1, e5_3, e5_4, e5_7, e5_10, e5_11, e5_14, e5_15, e5_16, e5_17, e5_20, e5_21, e5_22, e5_25, e5_28, e5_29, m5, ↓reduceIte, qg_0, qg_1, qg_2, qg_3, qg_4, qg_5, qg_6, qg_7, qg_8, qg_9, qg_10, qg_11, qg_12, qg_13, not_true_eq_false, not_false_eq_true, Nat.reduceBEq, Bool.false_eq_true, ex1, ex3, ex4, exF, qfit_i, qfit_l, qfit_r, qfit_n, qfit_b0, qfit_b1, qcat_i, qcat_r, qcat_n, qcat_l, qroom_0, qroom_c, List.map_cons, List.map_nil, List.sum_cons, List.sum_nil, Nat.reduceAdd, Nat.reduceMul, Nat.reduceLT, Nat.reduceLeDiff, Nat.reduceEqDiff, Nat.reduceSub, decide_true, true_and, and_true, and_self, if_true, if_false, Option.toList_some, Option.toList_none, List.cons_append, List.nil_append, qsL, qlong, List.length_cons, List.length_nil, iN_L, exI, iN_add, iN_mul, iN_le, iN_lt, iN_eq, Nat.le_refl, qfN0, qfN1, uX_16, vX_16, uX_19, vX_19, uX_27, vX_27, uX_30, vX_30, uX_39, vX_39, uX_41, vX_41, uX_43, vX_43, uX_46, vX_46, uX_50, vX_50, uX_53, vX_53, gX_41_1, r2, show ¬ r.length ≤ j by omega, gX_41_0, rX_42, v1, q]
  rw [← go r.length 0 (by omega) (fun t ht => absurd ht (Nat.not_lt_zero t))]
  simp (disch := first | assumption | omega) only [e5_0, e5_1, e5_3, e5_4, e5_7, e5_10, e5_11, e5_14, e5_15, e5_16, e5_17, e5_20, e5_21, e5_22, e5_25, e5_28, e5_29, m5, ↓reduceIte, qg_0, qg_1, qg_2, qg_3, qg_4, qg_5, qg_6, qg_7, qg_8, qg_9, qg_10, qg_11, qg_12, qg_13, not_true_eq_false, not_false_eq_true, Nat.reduceBEq, Bool.false_eq_true, ex1, ex3, ex4, exF, qfit_i, qfit_l, qfit_r, qfit_n, qfit_b0, qfit_b1, qcat_i, qcat_r, qcat_n, qcat_l, qroom_0, qroom_c, List.map_cons, List.map_nil, List.sum_cons, List.sum_nil, Nat.reduceAdd, Nat.reduceMul, Nat.reduceLT, Nat.reduceLeDiff, Nat.reduceEqDiff, Nat.reduceSub, decide_true, true_and, and_true, and_self, if_true, if_false, Option.toList_some, Option.toList_none, List.cons_append, List.nil_append, qsL, qlong, List.length_cons, List.length_nil, iN_L, exI, iN_add, iN_mul, iN_le, iN_lt, iN_eq, Nat.le_refl, qfN0, qfN1, uX_16, vX_16, uX_19, vX_19, uX_27, vX_27, uX_30, vX_30, uX_39, vX_39, uX_41, vX_41, uX_43, vX_43, uX_46, vX_46, uX_50, vX_50, uX_53, vX_53]
set_option maxRecDepth 100000 in
theorem x_addR {r : List Nat} {k : Nat} (s : ShX h) (rv : RwX h r) (hk : k < 200) (hl : r.length < 104) : ∃ h', (∀ R, qMC (d + 1) 6 [.ref 41, .int (iN k)] h R ↔ R = (some (.int (iN 1)), h')) ∧ ChX [42] [(41, 1)] 0 h h' ∧ RwX h' (r ++ [k]) := by
  obtain ⟨r1, r2, r3⟩ := rv
  obtain ⟨g1, eg1⟩ : ∃ g1, g1 = sI h 42 (upd (hi h 42) r.length (iN k)) := ⟨_, rfl⟩
  have c1 : ChX [42] [(41, 1)] 0 h g1 := by rw [eg1]; exact ChX.rowI s (kX_42 s) (by decide) (by decide)
  have s1 := c1.sh
  have w1 : qiast h 42 (iN r.length) (iN k) = some g1 := by rw [eg1]; exact wX_42 s (by omega)
  have m1 : xi g1 41 1 = iN r.length := by rw [eg1]; unfold xi; rw [hf_sI (kX_42 s)]; exact r2
  obtain ⟨g2, eg2⟩ : ∃ g2, g2 = xV g1 41 1 (.int (iN (r.length + 1))) := ⟨_, rfl⟩
  have c2 : ChX [42] [(41, 1)] 0 h g2 := c1.trans0 (by rw [eg2]; exact ChX.setI s1 (by decide) (by decide))
  have p2 : qput g1 41 1 1 (.int (iN (r.length + 1))) = some g2 := by rw [eg2]; exact pX_41_1 s1
  refine ⟨g2, fun R => ?_, c2, by rw [List.length_append, List.length_singleton]; omega, by rw [eg2, xi_xV, if_pos ⟨rfl, rfl⟩, List.length_append, List.length_singleton], fun t ht => ?_⟩
  · simp (disch := first | assumption | omega) only [e6_0, e6_1, e6_4, e6_6, e6_9, e6_10, e6_11, e6_12, e6_15, e6_16, e6_19, e6_20, e6_21, e6_22, e6_23, e6_26, e6_27, e6_28, e6_31, e6_32, m6, ↓reduceIte, qg_0, qg_1, qg_2, qg_3, qg_4, qg_5, qg_6, qg_7, qg_8, qg_9, qg_10, qg_11, qg_12, qg_13, not_true_eq_false, not_false_eq_true, Nat.reduceBEq, Bool.false_eq_true, ex1, ex3, ex4, exF, qfit_i, qfit_l, qfit_r, qfit_n, qfit_b0, qfit_b1, qcat_i, qcat_r, qcat_n, qcat_l, qroom_0, qroom_c, List.map_cons, List.map_nil, List.sum_cons, List.sum_nil, Nat.reduceAdd, Nat.reduceMul, Nat.reduceLT, Nat.reduceLeDiff, Nat.reduceEqDiff, Nat.reduceSub, decide_true, true_and, and_true, and_self, if_true, if_false, Option.toList_some, Option.toList_none, List.cons_append, List.nil_append, qsL, qlong, List.length_cons, List.length_nil, iN_L, exI, iN_add, iN_mul, iN_le, iN_lt, iN_eq, Nat.le_refl, qfN0, qfN1, uX_16, vX_16, uX_19, vX_19, uX_27, vX_27, uX_30, vX_30, uX_39, vX_39, uX_41, vX_41, uX_43, vX_43, uX_46, vX_46, uX_50, vX_50, uX_53, vX_53, gX_41_1, r2, hl, gX_41_0, w1, m1, p2]
  · rw [List.length_append, List.length_singleton] at ht
    rw [getD_snoc ht, eg2, hi_xV (oX_41 s1), eg1, hi_sI, if_pos rfl, upd_at]
    by_cases e : t = r.length
    · rw [if_pos e, if_pos e]; exact ⟨rfl, hk⟩
    · rw [if_neg e, if_neg e]; exact r3 t (by omega)
set_option maxRecDepth 100000 in
set_option maxHeartbeats 16000000 in
theorem x_row {r : List Nat} (s : ShX h) (rv : RwX h r) (x : Int32) : ∃ v h' r', (∀ R, qMC (d + 2) 155 [.ref 16, .int x] h R ↔ R = (some (.int v), h')) ∧ ChX [42] [(41, 1)] 0 h h' ∧ RwX h' r' ∧ rowR r x v r' := by
  by_cases hx : ∃ k, k ≤ 199 ∧ x = iN k
  · obtain ⟨k, hk, rfl⟩ := hx
    have r1 := rv.1
    have hs : ∀ R, qMC (d + 1) 5 [.ref 41, .int (iN k)] h R ↔ R = (some (.int (bB (decide (k ∈ r)))), h) := fun R => x_has s rv (by omega)
    by_cases hm : k ∈ r
    · rw [decide_eq_true hm, bN_t] at hs
      refine ⟨-1003, h, r, fun R => ?_, ChX.refl s, rv, Or.inr ⟨k, ⟨hk, rfl⟩, Or.inl ⟨hm, rfl, rfl⟩⟩⟩
      simp (disch := first | assumption | omega) only [e155_0, e155_1, e155_4, e155_5, e155_8, e155_11, e155_14, e155_15, e155_16, e155_19, e155_20, e155_23, e155_26, e155_29, e155_30, e155_31, e155_34, e155_35, e155_38, e155_41, e155_42, e155_45, e155_48, e155_51, e155_54, m155, ↓reduceIte, qg_0, qg_1, qg_2, qg_3, qg_4, qg_5, qg_6, qg_7, qg_8, qg_9, qg_10, qg_11, qg_12, qg_13, not_true_eq_false, not_false_eq_true, Nat.reduceBEq, Bool.false_eq_true, ex1, ex3, ex4, exF, qfit_i, qfit_l, qfit_r, qfit_n, qfit_b0, qfit_b1, qcat_i, qcat_r, qcat_n, qcat_l, qroom_0, qroom_c, List.map_cons, List.map_nil, List.sum_cons, List.sum_nil, Nat.reduceAdd, Nat.reduceMul, Nat.reduceLT, Nat.reduceLeDiff, Nat.reduceEqDiff, Nat.reduceSub, decide_true, true_and, and_true, and_self, if_true, if_false, Option.toList_some, Option.toList_none, List.cons_append, List.nil_append, qsL, qlong, List.length_cons, List.length_nil, iN_L, exI, iN_add, iN_mul, iN_le, iN_lt, iN_eq, Nat.le_refl, qfN0, qfN1, uX_16, vX_16, uX_19, vX_19, uX_27, vX_27, uX_30, vX_30, uX_39, vX_39, uX_41, vX_41, uX_43, vX_43, uX_46, vX_46, uX_50, vX_50, uX_53, vX_53, show ¬ k < 0 by omega, hk, gX_16_8, hs, iN10]
    · rw [decide_eq_false hm, bN_f] at hs
      by_cases hl : r.length < 104
      · obtain ⟨h', ra, c, rv'⟩ := x_addR (d := d) s rv (show k < 200 by omega) hl
        have s' := c.sh
        have m' := rv'.2.1
        rw [List.length_append, List.length_singleton] at m'
        refine ⟨iN (r.length + 1), h', r ++ [k], fun R => ?_, c, rv', Or.inr ⟨k, ⟨hk, rfl⟩, Or.inr (Or.inr ⟨hm, hl, rfl, rfl⟩)⟩⟩
        simp (disch := first | assumption | omega) only [e155_0, e155_1, e155_4, e155_5, e155_8, e155_11, e155_14, e155_15, e155_16, e155_19, e155_20, e155_23, e155_26, e155_29, e155_30, e155_31, e155_34, e155_35, e155_38, e155_41, e155_42, e155_45, e155_48, e155_51, e155_54, m155, ↓reduceIte, qg_0, qg_1, qg_2, qg_3, qg_4, qg_5, qg_6, qg_7, qg_8, qg_9, qg_10, qg_11, qg_12, qg_13, not_true_eq_false, not_false_eq_true, Nat.reduceBEq, Bool.false_eq_true, ex1, ex3, ex4, exF, qfit_i, qfit_l, qfit_r, qfit_n, qfit_b0, qfit_b1, qcat_i, qcat_r, qcat_n, qcat_l, qroom_0, qroom_c, List.map_cons, List.map_nil, List.sum_cons, List.sum_nil, Nat.reduceAdd, Nat.reduceMul, Nat.reduceLT, Nat.reduceLeDiff, Nat.reduceEqDiff, Nat.reduceSub, decide_true, true_and, and_true, and_self, if_true, if_false, Option.toList_some, Option.toList_none, List.cons_append, List.nil_append, qsL, qlong, List.length_cons, List.length_nil, iN_L, exI, iN_add, iN_mul, iN_le, iN_lt, iN_eq, Nat.le_refl, qfN0, qfN1, uX_16, vX_16, uX_19, vX_19, uX_27, vX_27, uX_30, vX_30, uX_39, vX_39, uX_41, vX_41, uX_43, vX_43, uX_46, vX_46, uX_50, vX_50, uX_53, vX_53, show ¬ k < 0 by omega, hk, gX_16_8, hs, ra, iN10, gX_41_1, m']
      · have r2 := rv.2.1
        have ra : ∀ R, qMC (d + 1) 6 [.ref 41, .int (iN k)] h R ↔ R = (some (.int (iN 0)), h) := by
          intro R
          simp (disch := first | assumption | omega) only [e6_0, e6_1, e6_4, e6_6, e6_9, e6_10, e6_11, e6_12, e6_15, e6_16, e6_19, e6_20, e6_21, e6_22, e6_23, e6_26, e6_27, e6_28, e6_31, e6_32, m6, ↓reduceIte, qg_0, qg_1, qg_2, qg_3, qg_4, qg_5, qg_6, qg_7, qg_8, qg_9, qg_10, qg_11, qg_12, qg_13, not_true_eq_false, not_false_eq_true, Nat.reduceBEq, Bool.false_eq_true, ex1, ex3, ex4, exF, qfit_i, qfit_l, qfit_r, qfit_n, qfit_b0, qfit_b1, qcat_i, qcat_r, qcat_n, qcat_l, qroom_0, qroom_c, List.map_cons, List.map_nil, List.sum_cons, List.sum_nil, Nat.reduceAdd, Nat.reduceMul, Nat.reduceLT, Nat.reduceLeDiff, Nat.reduceEqDiff, Nat.reduceSub, decide_true, true_and, and_true, and_self, if_true, if_false, Option.toList_some, Option.toList_none, List.cons_append, List.nil_append, qsL, qlong, List.length_cons, List.length_nil, iN_L, exI, iN_add, iN_mul, iN_le, iN_lt, iN_eq, Nat.le_refl, qfN0, qfN1, uX_16, vX_16, uX_19, vX_19, uX_27, vX_27, uX_30, vX_30, uX_39, vX_39, uX_41, vX_41, uX_43, vX_43, uX_46, vX_46, uX_50, vX_50, uX_53, vX_53, gX_41_1, r2, hl]
        refine ⟨-1004, h, r, fun R => ?_, ChX.refl s, rv, Or.inr ⟨k, ⟨hk, rfl⟩, Or.inr (Or.inl ⟨hm, by omega, rfl, rfl⟩)⟩⟩
        simp (disch := first | assumption | omega) only [e155_0, e155_1, e155_4, e155_5, e155_8, e155_11, e155_14, e155_15, e155_16, e155_19, e155_20, e155_23, e155_26, e155_29, e155_30, e155_31, e155_34, e155_35, e155_38, e155_41, e155_42, e155_45, e155_48, e155_51, e155_54, m155, ↓reduceIte, qg_0, qg_1, qg_2, qg_3, qg_4, qg_5, qg_6, qg_7, qg_8, qg_9, qg_10, qg_11, qg_12, qg_13, not_true_eq_false, not_false_eq_true, Nat.reduceBEq, Bool.false_eq_true, ex1, ex3, ex4, exF, qfit_i, qfit_l, qfit_r, qfit_n, qfit_b0, qfit_b1, qcat_i, qcat_r, qcat_n, qcat_l, qroom_0, qroom_c, List.map_cons, List.map_nil, List.sum_cons, List.sum_nil, Nat.reduceAdd, Nat.reduceMul, Nat.reduceLT, Nat.reduceLeDiff, Nat.reduceEqDiff, Nat.reduceSub, decide_true, true_and, and_true, and_self, if_true, if_false, Option.toList_some, Option.toList_none, List.cons_append, List.nil_append, qsL, qlong, List.length_cons, List.length_nil, iN_L, exI, iN_add, iN_mul, iN_le, iN_lt, iN_eq, Nat.le_refl, qfN0, qfN1, uX_16, vX_16, uX_19, vX_19, uX_27, vX_27, uX_30, vX_30, uX_39, vX_39, uX_41, vX_41, uX_43, vX_43, uX_46, vX_46, uX_50, vX_50, uX_53, vX_53, show ¬ k < 0 by omega, hk, gX_16_8, hs, ra]
  · refine ⟨-1002, h, r, fun R => ?_, ChX.refl s, rv, Or.inl ⟨hx, rfl, rfl⟩⟩
    rw [int_N (by omega)] at hx
    by_cases q : x.toInt < 0
    · have q1 : x < iN 0 := ltN_0.mpr q
      simp (disch := first | assumption | omega) only [e155_0, e155_1, e155_4, e155_5, e155_8, e155_11, e155_14, e155_15, e155_16, e155_19, e155_20, e155_23, e155_26, e155_29, e155_30, e155_31, e155_34, e155_35, e155_38, e155_41, e155_42, e155_45, e155_48, e155_51, e155_54, m155, ↓reduceIte, qg_0, qg_1, qg_2, qg_3, qg_4, qg_5, qg_6, qg_7, qg_8, qg_9, qg_10, qg_11, qg_12, qg_13, not_true_eq_false, not_false_eq_true, Nat.reduceBEq, Bool.false_eq_true, ex1, ex3, ex4, exF, qfit_i, qfit_l, qfit_r, qfit_n, qfit_b0, qfit_b1, qcat_i, qcat_r, qcat_n, qcat_l, qroom_0, qroom_c, List.map_cons, List.map_nil, List.sum_cons, List.sum_nil, Nat.reduceAdd, Nat.reduceMul, Nat.reduceLT, Nat.reduceLeDiff, Nat.reduceEqDiff, Nat.reduceSub, decide_true, true_and, and_true, and_self, if_true, if_false, Option.toList_some, Option.toList_none, List.cons_append, List.nil_append, qsL, qlong, List.length_cons, List.length_nil, iN_L, exI, iN_add, iN_mul, iN_le, iN_lt, iN_eq, Nat.le_refl, qfN0, qfN1, uX_16, vX_16, uX_19, vX_19, uX_27, vX_27, uX_30, vX_30, uX_39, vX_39, uX_41, vX_41, uX_43, vX_43, uX_46, vX_46, uX_50, vX_50, uX_53, vX_53, q1]
    · have q1 : ¬ x < iN 0 := fun z => q (ltN_0.mp z)
      have q2 : ¬ x ≤ iN 199 := by rw [le_N (by omega)]; omega
      simp (disch := first | assumption | omega) only [e155_0, e155_1, e155_4, e155_5, e155_8, e155_11, e155_14, e155_15, e155_16, e155_19, e155_20, e155_23, e155_26, e155_29, e155_30, e155_31, e155_34, e155_35, e155_38, e155_41, e155_42, e155_45, e155_48, e155_51, e155_54, m155, ↓reduceIte, qg_0, qg_1, qg_2, qg_3, qg_4, qg_5, qg_6, qg_7, qg_8, qg_9, qg_10, qg_11, qg_12, qg_13, not_true_eq_false, not_false_eq_true, Nat.reduceBEq, Bool.false_eq_true, ex1, ex3, ex4, exF, qfit_i, qfit_l, qfit_r, qfit_n, qfit_b0, qfit_b1, qcat_i, qcat_r, qcat_n, qcat_l, qroom_0, qroom_c, List.map_cons, List.map_nil, List.sum_cons, List.sum_nil, Nat.reduceAdd, Nat.reduceMul, Nat.reduceLT, Nat.reduceLeDiff, Nat.reduceEqDiff, Nat.reduceSub, decide_true, true_and, and_true, and_self, if_true, if_false, Option.toList_some, Option.toList_none, List.cons_append, List.nil_append, qsL, qlong, List.length_cons, List.length_nil, iN_L, exI, iN_add, iN_mul, iN_le, iN_lt, iN_eq, Nat.le_refl, qfN0, qfN1, uX_16, vX_16, uX_19, vX_19, uX_27, vX_27, uX_30, vX_30, uX_39, vX_39, uX_41, vX_41, uX_43, vX_43, uX_46, vX_46, uX_50, vX_50, uX_53, vX_53, q1, q2]
/-- THE PATTERN -/
def PaX (h : qH) (n : Nat) (ss : List Nat) : Prop := (3 ≤ n ∧ n ≤ 12) ∧ ss.length ≤ 24 ∧ xi h 39 0 = iN n ∧ xi h 39 2 = iN ss.length ∧ ∀ k, k < ss.length → hi h 40 k = iN (ss.getD k 0) ∧ 1 ≤ ss.getD k 0 ∧ ss.getD k 0 < 2 ^ n
set_option maxRecDepth 100000 in
theorem x_pattern {n : Nat} {ss : List Nat} (s : ShX h) (pv : PaX h n ss) (x : Int32) : ((¬ ∃ k, (3 ≤ k ∧ k ≤ 12) ∧ x = iN k) → ∀ R, qMC (d + 1) 152 [.ref 16, .int x] h R ↔ R = (some (.int (-1002)), h)) ∧ ∀ k, 3 ≤ k ∧ k ≤ 12 → x = iN k → ∃ h', (∀ R, qMC (d + 1) 152 [.ref 16, .int x] h R ↔ R = (some (.int 1), h')) ∧ ChX [] [(39, 0), (39, 2)] 0 h h' ∧ PaX h' k [] := by
  constructor
  · intro hx R
    by_cases q : x < iN 3
    · simp (disch := first | assumption | omega) only [e152_0, e152_1, e152_2, e152_5, e152_6, e152_8, e152_11, e152_14, e152_15, e152_16, e152_19, e152_20, e152_23, e152_24, e152_27, e152_28, e152_31, e152_32, m152, ↓reduceIte, qg_0, qg_1, qg_2, qg_3, qg_4, qg_5, qg_6, qg_7, qg_8, qg_9, qg_10, qg_11, qg_12, qg_13, not_true_eq_false, not_false_eq_true, Nat.reduceBEq, Bool.false_eq_true, ex1, ex3, ex4, exF, qfit_i, qfit_l, qfit_r, qfit_n, qfit_b0, qfit_b1, qcat_i, qcat_r, qcat_n, qcat_l, qroom_0, qroom_c, List.map_cons, List.map_nil, List.sum_cons, List.sum_nil, Nat.reduceAdd, Nat.reduceMul, Nat.reduceLT, Nat.reduceLeDiff, Nat.reduceEqDiff, Nat.reduceSub, decide_true, true_and, and_true, and_self, if_true, if_false, Option.toList_some, Option.toList_none, List.cons_append, List.nil_append, qsL, qlong, List.length_cons, List.length_nil, iN_L, exI, iN_add, iN_mul, iN_le, iN_lt, iN_eq, Nat.le_refl, qfN0, qfN1, uX_16, vX_16, uX_19, vX_19, uX_27, vX_27, uX_30, vX_30, uX_39, vX_39, uX_41, vX_41, uX_43, vX_43, uX_46, vX_46, uX_50, vX_50, uX_53, vX_53, q]
    · have q2 : ¬ x ≤ iN 12 := fun z => hx (by
        rw [lt_N (by omega)] at q
        rw [le_N (by omega)] at z
        refine ⟨x.toInt.toNat, by omega, ?_⟩
        rw [← Int32.toInt_inj, iN_int (by omega)]
        omega)
      simp (disch := first | assumption | omega) only [e152_0, e152_1, e152_2, e152_5, e152_6, e152_8, e152_11, e152_14, e152_15, e152_16, e152_19, e152_20, e152_23, e152_24, e152_27, e152_28, e152_31, e152_32, m152, ↓reduceIte, qg_0, qg_1, qg_2, qg_3, qg_4, qg_5, qg_6, qg_7, qg_8, qg_9, qg_10, qg_11, qg_12, qg_13, not_true_eq_false, not_false_eq_true, Nat.reduceBEq, Bool.false_eq_true, ex1, ex3, ex4, exF, qfit_i, qfit_l, qfit_r, qfit_n, qfit_b0, qfit_b1, qcat_i, qcat_r, qcat_n, qcat_l, qroom_0, qroom_c, List.map_cons, List.map_nil, List.sum_cons, List.sum_nil, Nat.reduceAdd, Nat.reduceMul, Nat.reduceLT, Nat.reduceLeDiff, Nat.reduceEqDiff, Nat.reduceSub, decide_true, true_and, and_true, and_self, if_true, if_false, Option.toList_some, Option.toList_none, List.cons_append, List.nil_append, qsL, qlong, List.length_cons, List.length_nil, iN_L, exI, iN_add, iN_mul, iN_le, iN_lt, iN_eq, Nat.le_refl, qfN0, qfN1, uX_16, vX_16, uX_19, vX_19, uX_27, vX_27, uX_30, vX_30, uX_39, vX_39, uX_41, vX_41, uX_43, vX_43, uX_46, vX_46, uX_50, vX_50, uX_53, vX_53, q, q2]
  · rintro k hk rfl
    obtain ⟨g1, eg1⟩ : ∃ g1, g1 = xV h 39 0 (.int (iN k)) := ⟨_, rfl⟩
    have c1 : ChX [] [(39, 0), (39, 2)] 0 h g1 := by rw [eg1]; exact ChX.setI s (by decide) (by decide)
    have s1 := c1.sh
    have p1 : qput h 39 5 0 (.int (iN k)) = some g1 := by rw [eg1]; exact pX_39_0 s
    obtain ⟨g2, eg2⟩ : ∃ g2, g2 = xV g1 39 2 (.int (iN 0)) := ⟨_, rfl⟩
    have c2 : ChX [] [(39, 0), (39, 2)] 0 h g2 := c1.trans0 (by rw [eg2]; exact ChX.setI s1 (by decide) (by decide))
    have p2 : qput g1 39 5 2 (.int (iN 0)) = some g2 := by rw [eg2]; exact pX_39_2 s1
    refine ⟨g2, fun R => ?_, c2, hk, Nat.zero_le _, by rw [eg2, xi_xV, if_neg (by decide), eg1, xi_xV, if_pos ⟨rfl, rfl⟩], by rw [eg2, xi_xV, if_pos ⟨rfl, rfl⟩]; rfl, fun t ht => absurd ht (Nat.not_lt_zero t)⟩
    simp (disch := first | assumption | omega) only [e152_0, e152_1, e152_2, e152_5, e152_6, e152_8, e152_11, e152_14, e152_15, e152_16, e152_19, e152_20, e152_23, e152_24, e152_27, e152_28, e152_31, e152_32, m152, ↓reduceIte, qg_0, qg_1, qg_2, qg_3, qg_4, qg_5, qg_6, qg_7, qg_8, qg_9, qg_10, qg_11, qg_12, qg_13, not_true_eq_false, not_false_eq_true, Nat.reduceBEq, Bool.false_eq_true, ex1, ex3, ex4, exF, qfit_i, qfit_l, qfit_r, qfit_n, qfit_b0, qfit_b1, qcat_i, qcat_r, qcat_n, qcat_l, qroom_0, qroom_c, List.map_cons, List.map_nil, List.sum_cons, List.sum_nil, Nat.reduceAdd, Nat.reduceMul, Nat.reduceLT, Nat.reduceLeDiff, Nat.reduceEqDiff, Nat.reduceSub, decide_true, true_and, and_true, and_self, if_true, if_false, Option.toList_some, Option.toList_none, List.cons_append, List.nil_append, qsL, qlong, List.length_cons, List.length_nil, iN_L, exI, iN_add, iN_mul, iN_le, iN_lt, iN_eq, Nat.le_refl, qfN0, qfN1, uX_16, vX_16, uX_19, vX_19, uX_27, vX_27, uX_30, vX_30, uX_39, vX_39, uX_41, vX_41, uX_43, vX_43, uX_46, vX_46, uX_50, vX_50, uX_53, vX_53, show ¬ k < 3 by omega, show k ≤ 12 by omega, gX_16_7, p1, p2]
end XROW

/-! ===== THE CLASS: THE PATTERN, its laws ===== -/
section XPLAN2
variable {d : Nat} {h : qH} {n : Nat} {ss : List Nat}
theorem iN_one (k : Nat) : iN k &&& iN 1 = iN (k % 2) := by rw [iN_and, Nat.and_one_is_mod]
set_option maxRecDepth 100000 in
theorem x_signOf {k : Nat} (R : qRes) : qMC (d + 1) 177 [.int (iN k)] h R ↔ R = (some (.int (iZ (sgn k))), h) := by
  unfold sgn
  by_cases q : k % 2 = 0
  · rw [if_pos q, show iZ 1 = iN 1 from rfl]
    simp (disch := first | assumption | omega) only [e177_0, e177_1, e177_2, e177_3, e177_6, e177_7, e177_10, e177_11, m177, ↓reduceIte, qg_0, qg_1, qg_2, qg_3, qg_4, qg_5, qg_6, qg_7, qg_8, qg_9, qg_10, qg_11, qg_12, qg_13, not_true_eq_false, not_false_eq_true, Nat.reduceBEq, Bool.false_eq_true, ex1, ex3, ex4, exF, qfit_i, qfit_l, qfit_r, qfit_n, qfit_b0, qfit_b1, qcat_i, qcat_r, qcat_n, qcat_l, qroom_0, qroom_c, List.map_cons, List.map_nil, List.sum_cons, List.sum_nil, Nat.reduceAdd, Nat.reduceMul, Nat.reduceLT, Nat.reduceLeDiff, Nat.reduceEqDiff, Nat.reduceSub, decide_true, true_and, and_true, and_self, if_true, if_false, Option.toList_some, Option.toList_none, List.cons_append, List.nil_append, qsL, qlong, List.length_cons, List.length_nil, iN_L, exI, iN_add, iN_mul, iN_le, iN_lt, iN_eq, Nat.le_refl, qfN0, qfN1, uX_16, vX_16, uX_19, vX_19, uX_27, vX_27, uX_30, vX_30, uX_39, vX_39, uX_41, vX_41, uX_43, vX_43, uX_46, vX_46, uX_50, vX_50, uX_53, vX_53, iN_one, q]
  · rw [if_neg q, show iZ (-1) = -iN 1 from rfl]
    simp (disch := first | assumption | omega) only [e177_0, e177_1, e177_2, e177_3, e177_6, e177_7, e177_10, e177_11, m177, ↓reduceIte, qg_0, qg_1, qg_2, qg_3, qg_4, qg_5, qg_6, qg_7, qg_8, qg_9, qg_10, qg_11, qg_12, qg_13, not_true_eq_false, not_false_eq_true, Nat.reduceBEq, Bool.false_eq_true, ex1, ex3, ex4, exF, qfit_i, qfit_l, qfit_r, qfit_n, qfit_b0, qfit_b1, qcat_i, qcat_r, qcat_n, qcat_l, qroom_0, qroom_c, List.map_cons, List.map_nil, List.sum_cons, List.sum_nil, Nat.reduceAdd, Nat.reduceMul, Nat.reduceLT, Nat.reduceLeDiff, Nat.reduceEqDiff, Nat.reduceSub, decide_true, true_and, and_true, and_self, if_true, if_false, Option.toList_some, Option.toList_none, List.cons_append, List.nil_append, qsL, qlong, List.length_cons, List.length_nil, iN_L, exI, iN_add, iN_mul, iN_le, iN_lt, iN_eq, Nat.le_refl, qfN0, qfN1, uX_16, vX_16, uX_19, vX_19, uX_27, vX_27, uX_30, vX_30, uX_39, vX_39, uX_41, vX_41, uX_43, vX_43, uX_46, vX_46, uX_50, vX_50, uX_53, vX_53, iN_one, show k % 2 = 1 by omega, iN10]
set_option maxRecDepth 100000 in
set_option maxHeartbeats 16000000 in
theorem x_touches {a m D : Nat} (s : ShX h) (v : PaX h n ss) (ha : a < ss.length) (hm : m < 2147483648) (hD : 1 ≤ D ∧ D ≤ 4) (R : qRes) : qMC (d + 2) 69 [.ref 39, .int (iN a), .int (iN m), .int (iN D)] h R ↔ R = (some (.int (bB (anyN (fun o => m.testBit o && jnA ss D o a) ss.length))), h) := by
  have l24 := v.2.1
  have m2 := v.2.2.2.1
  obtain ⟨a1, a2, a3, -⟩ := v.at ha
  have eD : iN D - iN 1 = iN (D - 1) := iN_sub (by omega)
  have go : ∀ (w j : Nat), j + w = ss.length → (∀ t, t < j → (m.testBit t && jnA ss D t a) = false) → (qEv (d + 1) 3 qk_69 3 [some (.ref 39), some (.int (iN a)), some (.int (iN m)), some (.int (iN D)), some (.int (iN j))] [] h R ↔ R = (some (.int (bB (anyN (fun o => m.testBit o && jnA ss D o a) ss.length))), h)) := by
    intro w
    induction w with
    | zero =>
      intro j hj hn
      rw [any_f.mpr (fun t ht => hn t (by omega)), bN_f, e69_3]
      simp (disch := first | assumption | omega) only [e69_0, e69_1, e69_5, e69_6, e69_9, e69_12, e69_13, e69_15, e69_16, e69_17, e69_18, e69_21, e69_22, e69_25, e69_26, e69_27, e69_28, e69_31, e69_33, e69_34, e69_35, e69_38, e69_39, e69_40, e69_41, e69_44, e69_45, e69_46, e69_49, e69_52, e69_53, m69, ↓reduceIte, qg_0, qg_1, qg_2, qg_3, qg_4, qg_5, qg_6, qg_7, qg_8, qg_9, qg_10, qg_11, qg_12, qg_13, not_true_eq_false, not_false_eq_true, Nat.reduceBEq, Bool.false_eq_true, ex1, ex3, ex4, exF, qfit_i, qfit_l, qfit_r, qfit_n, qfit_b0, qfit_b1, qcat_i, qcat_r, qcat_n, qcat_l, qroom_0, qroom_c, List.map_cons, List.map_nil, List.sum_cons, List.sum_nil, Nat.reduceAdd, Nat.reduceMul, Nat.reduceLT, Nat.reduceLeDiff, Nat.reduceEqDiff, Nat.reduceSub, decide_true, true_and, and_true, and_self, if_true, if_false, Option.toList_some, Option.toList_none, List.cons_append, List.nil_append, qsL, qlong, List.length_cons, List.length_nil, iN_L, exI, iN_add, iN_mul, iN_le, iN_lt, iN_eq, Nat.le_refl, qfN0, qfN1, uX_16, vX_16, uX_19, vX_19, uX_27, vX_27, uX_30, vX_30, uX_39, vX_39, uX_41, vX_41, uX_43, vX_43, uX_46, vX_46, uX_50, vX_50, uX_53, vX_53, gX_39_2, m2, show ss.length ≤ j by omega]
    | succ w ih =>
      intro j hj hn
      have hj' : j < ss.length := by omega
      obtain ⟨q1, q2, q3, -⟩ := v.at hj'
      have al : ss.getD a 0 &&& ss.getD j 0 ≤ ss.getD a 0 := Nat.and_le_left
      have sb : ∀ R, qMC (d + 1) 308 [.int (iN (ss.getD a 0 &&& ss.getD j 0))] h R ↔ R = (some (.int (iN (pop (ss.getD a 0 &&& ss.getD j 0) 24))), h) := fun R => x_bitCount (by omega)
      have pl := pop_le (ss.getD a 0 &&& ss.getD j 0) 24
      have ej : jnA ss D j a = decide (pop (ss.getD a 0 &&& ss.getD j 0) 24 = D - 1) := by unfold jnA; rw [Nat.and_comm]
      have nx : (m.testBit j && jnA ss D j a) = false → (qEv (d + 1) 3 qk_69 3 [some (.ref 39), some (.int (iN a)), some (.int (iN m)), some (.int (iN D)), some (.int (iN (j + 1)))] [] h R ↔ R = (some (.int (bB (anyN (fun o => m.testBit o && jnA ss D o a) ss.length))), h)) := fun q => ih (j + 1) (by omega) (fun t ht => by
          rcases Nat.lt_or_ge t j with z | z
          · exact hn t z
          · rw [show t = j by omega]; exact q)
      cases b : m.testBit j with
      | false =>
        rw [← nx (by rw [b]; rfl), e69_3]
        simp (disch := first | assumption | omega) only [e69_0, e69_1, e69_5, e69_6, e69_9, e69_12, e69_13, e69_15, e69_16, e69_17, e69_18, e69_21, e69_22, e69_25, e69_26, e69_27, e69_28, e69_31, e69_33, e69_34, e69_35, e69_38, e69_39, e69_40, e69_41, e69_44, e69_45, e69_46, e69_49, e69_52, e69_53, m69, ↓reduceIte, qg_0, qg_1, qg_2, qg_3, qg_4, qg_5, qg_6, qg_7, qg_8, qg_9, qg_10, qg_11, qg_12, qg_13, not_true_eq_false, not_false_eq_true, Nat.reduceBEq, Bool.false_eq_true, ex1, ex3, ex4, exF, qfit_i, qfit_l, qfit_r, qfit_n, qfit_b0, qfit_b1, qcat_i, qcat_r, qcat_n, qcat_l, qroom_0, qroom_c, List.map_cons, List.map_nil, List.sum_cons, List.sum_nil, Nat.reduceAdd, Nat.reduceMul, Nat.reduceLT, Nat.reduceLeDiff, Nat.reduceEqDiff, Nat.reduceSub, decide_true, true_and, and_true, and_self, if_true, if_false, Option.toList_some, Option.toList_none, List.cons_append, List.nil_append, qsL, qlong, List.length_cons, List.length_nil, iN_L, exI, iN_add, iN_mul, iN_le, iN_lt, iN_eq, Nat.le_refl, qfN0, qfN1, uX_16, vX_16, uX_19, vX_19, uX_27, vX_27, uX_30, vX_30, uX_39, vX_39, uX_41, vX_41, uX_43, vX_43, uX_46, vX_46, uX_50, vX_50, uX_53, vX_53, gX_39_2, m2, show ¬ ss.length ≤ j by omega, bit0 hm (show j < 32 by omega) b]
      | true =>
        by_cases q : pop (ss.getD a 0 &&& ss.getD j 0) 24 = D - 1
        · rw [anyN_iff.mpr ⟨j, hj', by rw [b, ej, decide_eq_true q]; rfl⟩, bN_t, e69_3]
          simp (disch := first | assumption | omega) only [e69_0, e69_1, e69_5, e69_6, e69_9, e69_12, e69_13, e69_15, e69_16, e69_17, e69_18, e69_21, e69_22, e69_25, e69_26, e69_27, e69_28, e69_31, e69_33, e69_34, e69_35, e69_38, e69_39, e69_40, e69_41, e69_44, e69_45, e69_46, e69_49, e69_52, e69_53, m69, ↓reduceIte, qg_0, qg_1, qg_2, qg_3, qg_4, qg_5, qg_6, qg_7, qg_8, qg_9, qg_10, qg_11, qg_12, qg_13, not_true_eq_false, not_false_eq_true, Nat.reduceBEq, Bool.false_eq_true, ex1, ex3, ex4, exF, qfit_i, qfit_l, qfit_r, qfit_n, qfit_b0, qfit_b1, qcat_i, qcat_r, qcat_n, qcat_l, qroom_0, qroom_c, List.map_cons, List.map_nil, List.sum_cons, List.sum_nil, Nat.reduceAdd, Nat.reduceMul, Nat.reduceLT, Nat.reduceLeDiff, Nat.reduceEqDiff, Nat.reduceSub, decide_true, true_and, and_true, and_self, if_true, if_false, Option.toList_some, Option.toList_none, List.cons_append, List.nil_append, qsL, qlong, List.length_cons, List.length_nil, iN_L, exI, iN_add, iN_mul, iN_le, iN_lt, iN_eq, Nat.le_refl, qfN0, qfN1, uX_16, vX_16, uX_19, vX_19, uX_27, vX_27, uX_30, vX_30, uX_39, vX_39, uX_41, vX_41, uX_43, vX_43, uX_46, vX_46, uX_50, vX_50, uX_53, vX_53, gX_39_2, m2, show ¬ ss.length ≤ j by omega, bit1 hm (show j < 32 by omega) b, iN10, gX_39_1, rX_40, a1, q1, iN_and (ss.getD a 0) (ss.getD j 0), sb, eD, q]
        · rw [← nx (by rw [ej, decide_eq_false q, Bool.and_false]), e69_3]
          simp (disch := first | assumption | omega) only [e69_0, e69_1, e69_5, e69_6, e69_9, e69_12, e69_13, e69_15, e69_16, e69_17, e69_18, e69_21, e69_22, e69_25, e69_26, e69_27, e69_28, e69_31, e69_33, e69_34, e69_35, e69_38, e69_39, e69_40, e69_41, e69_44, e69_45, e69_46, e69_49, e69_52, e69_53, m69, ↓reduceIte, qg_0, qg_1, qg_2, qg_3, qg_4, qg_5, qg_6, qg_7, qg_8, qg_9, qg_10, qg_11, qg_12, qg_13, not_true_eq_false, not_false_eq_true, Nat.reduceBEq, Bool.false_eq_true, ex1, ex3, ex4, exF, qfit_i, qfit_l, qfit_r, qfit_n, qfit_b0, qfit_b1, qcat_i, qcat_r, qcat_n, qcat_l, qroom_0, qroom_c, List.map_cons, List.map_nil, List.sum_cons, List.sum_nil, Nat.reduceAdd, Nat.reduceMul, Nat.reduceLT, Nat.reduceLeDiff, Nat.reduceEqDiff, Nat.reduceSub, decide_true, true_and, and_true, and_self, if_true, if_false, Option.toList_some, Option.toList_none, List.cons_append, List.nil_append, qsL, qlong, List.length_cons, List.length_nil, iN_L, exI, iN_add, iN_mul, iN_le, iN_lt, iN_eq, Nat.le_refl, qfN0, qfN1, uX_16, vX_16, uX_19, vX_19, uX_27, vX_27, uX_30, vX_30, uX_39, vX_39, uX_41, vX_41, uX_43, vX_43, uX_46, vX_46, uX_50, vX_50, uX_53, vX_53, gX_39_2, m2, show ¬ ss.length ≤ j by omega, bit1 hm (show j < 32 by omega) b, iN10, gX_39_1, rX_40, a1, q1, iN_and (ss.getD a 0) (ss.getD j 0), sb, eD, q]
  rw [← go ss.length 0 (by omega) (fun t ht => absurd ht (Nat.not_lt_zero t))]
  simp (disch := first | assumption | omega) only [e69_0, e69_1, e69_5, e69_6, e69_9, e69_12, e69_13, e69_15, e69_16, e69_17, e69_18, e69_21, e69_22, e69_25, e69_26, e69_27, e69_28, e69_31, e69_33, e69_34, e69_35, e69_38, e69_39, e69_40, e69_41, e69_44, e69_45, e69_46, e69_49, e69_52, e69_53, m69, ↓reduceIte, qg_0, qg_1, qg_2, qg_3, qg_4, qg_5, qg_6, qg_7, qg_8, qg_9, qg_10, qg_11, qg_12, qg_13, not_true_eq_false, not_false_eq_true, Nat.reduceBEq, Bool.false_eq_true, ex1, ex3, ex4, exF, qfit_i, qfit_l, qfit_r, qfit_n, qfit_b0, qfit_b1, qcat_i, qcat_r, qcat_n, qcat_l, qroom_0, qroom_c, List.map_cons, List.map_nil, List.sum_cons, List.sum_nil, Nat.reduceAdd, Nat.reduceMul, Nat.reduceLT, Nat.reduceLeDiff, Nat.reduceEqDiff, Nat.reduceSub, decide_true, true_and, and_true, and_self, if_true, if_false, Option.toList_some, Option.toList_none, List.cons_append, List.nil_append, qsL, qlong, List.length_cons, List.length_nil, iN_L, exI, iN_add, iN_mul, iN_le, iN_lt, iN_eq, Nat.le_refl, qfN0, qfN1, uX_16, vX_16, uX_19, vX_19, uX_27, vX_27, uX_30, vX_30, uX_39, vX_39, uX_41, vX_41, uX_43, vX_43, uX_46, vX_46, uX_50, vX_50, uX_53, vX_53]
/-- one round over all sets -/
def opS (ss : List Nat) (D m0 s m : Nat) : Prop := m < 2 ^ ss.length ∧ (∀ c, m0.testBit c = true → m.testBit c = true) ∧ (∀ c, m.testBit c = true → jnC ss D c) ∧ ((m = m0 ∧ ∀ t, t < s → m0.testBit t = false → ∀ o, o < ss.length → m0.testBit o = true → jnA ss D o t = false) ∨ pop m0 ss.length < pop m ss.length)
def clS (ss : List Nat) (D m : Nat) : Prop := ∀ o t, o < ss.length → t < ss.length → m.testBit o = true → jnA ss D o t = true → m.testBit t = true
theorem pw24 {k : Nat} (h : k ≤ 24) : 2 ^ k ≤ 16777216 := show 2 ^ k ≤ 2 ^ 24 from Nat.pow_le_pow_right (by decide) h
set_option maxRecDepth 100000 in
set_option maxHeartbeats 16000000 in
theorem op_round {D m0 r : Nat} (s : ShX h) (v : PaX h n ss) (hD : 1 ≤ D ∧ D ≤ 4) (h0 : opS ss D m0 0 m0) : ∀ (w j m : Nat), j + w = ss.length → opS ss D m0 j m → ∃ m', opS ss D m0 ss.length m' ∧ ∀ R, qEv (d + 2) 3 qk_68 15 [some (.ref 39), some (.int (iN D)), some (.int (iN m)), some (.int (iN r)), some (.int (iN j))] [] h R ↔ qEv (d + 2) 3 qk_68 4 [some (.ref 39), some (.int (iN D)), some (.int (iN m')), some (.int (iN (r + 1))), some (.int (iN ss.length))] [] h R := by
  have l24 := v.2.1
  have m2 := v.2.2.2.1
  have p24 := pw24 v.2.1
  intro w
  induction w with
  | zero =>
    intro j m hj hm
    have e : j = ss.length := by omega
    subst e
    refine ⟨m, hm, fun R => ?_⟩
    rw [e68_15]
    simp (disch := first | assumption | omega) only [e68_0, e68_1, e68_2, e68_3, e68_5, e68_6, e68_9, e68_12, e68_13, e68_17, e68_18, e68_21, e68_24, e68_25, e68_27, e68_28, e68_29, e68_30, e68_33, e68_34, e68_36, e68_37, e68_38, e68_41, e68_44, e68_45, e68_46, e68_48, e68_49, e68_50, e68_51, e68_54, e68_57, e68_60, e68_63, e68_64, e68_65, e68_66, e68_69, e68_70, e68_71, e68_72, e68_75, e68_76, e68_79, e68_80, m68, ↓reduceIte, qg_0, qg_1, qg_2, qg_3, qg_4, qg_5, qg_6, qg_7, qg_8, qg_9, qg_10, qg_11, qg_12, qg_13, not_true_eq_false, not_false_eq_true, Nat.reduceBEq, Bool.false_eq_true, ex1, ex3, ex4, exF, qfit_i, qfit_l, qfit_r, qfit_n, qfit_b0, qfit_b1, qcat_i, qcat_r, qcat_n, qcat_l, qroom_0, qroom_c, List.map_cons, List.map_nil, List.sum_cons, List.sum_nil, Nat.reduceAdd, Nat.reduceMul, Nat.reduceLT, Nat.reduceLeDiff, Nat.reduceEqDiff, Nat.reduceSub, decide_true, true_and, and_true, and_self, if_true, if_false, Option.toList_some, Option.toList_none, List.cons_append, List.nil_append, qsL, qlong, List.length_cons, List.length_nil, iN_L, exI, iN_add, iN_mul, iN_le, iN_lt, iN_eq, Nat.le_refl, qfN0, qfN1, uX_16, vX_16, uX_19, vX_19, uX_27, vX_27, uX_30, vX_30, uX_39, vX_39, uX_41, vX_41, uX_43, vX_43, uX_46, vX_46, uX_50, vX_50, uX_53, vX_53, gX_39_2, m2]
  | succ w ih =>
    intro j m hj hm
    have hj' : j < ss.length := by omega
    have hml : m < 2147483648 := by have := hm.1; omega
    have st := fun R => x_touches (d := d) (a := j) (m := m) (D := D) s v hj' hml hD R
    cases b : m.testBit j with
    | true =>
      obtain ⟨m', o', r'⟩ := ih (j + 1) m (by omega) ⟨hm.1, hm.2.1, hm.2.2.1, by
        rcases hm.2.2.2 with z | z
        · refine Or.inl ⟨z.1, fun t ht hb => ?_⟩
          rcases Nat.lt_or_ge t j with y | y
          · exact z.2 t y hb
          · rw [show t = j by omega, ← z.1, b] at hb; cases hb
        · exact Or.inr z⟩
      refine ⟨m', o', fun R => ?_⟩
      rw [← r' R, e68_15]
      simp (disch := first | assumption | omega) only [e68_0, e68_1, e68_2, e68_3, e68_4, e68_5, e68_6, e68_9, e68_12, e68_13, e68_17, e68_18, e68_21, e68_24, e68_25, e68_27, e68_28, e68_29, e68_30, e68_33, e68_34, e68_36, e68_37, e68_38, e68_41, e68_44, e68_45, e68_46, e68_48, e68_49, e68_50, e68_51, e68_54, e68_57, e68_60, e68_63, e68_64, e68_65, e68_66, e68_69, e68_70, e68_71, e68_72, e68_75, e68_76, e68_79, e68_80, m68, ↓reduceIte, qg_0, qg_1, qg_2, qg_3, qg_4, qg_5, qg_6, qg_7, qg_8, qg_9, qg_10, qg_11, qg_12, qg_13, not_true_eq_false, not_false_eq_true, Nat.reduceBEq, Bool.false_eq_true, ex1, ex3, ex4, exF, qfit_i, qfit_l, qfit_r, qfit_n, qfit_b0, qfit_b1, qcat_i, qcat_r, qcat_n, qcat_l, qroom_0, qroom_c, List.map_cons, List.map_nil, List.sum_cons, List.sum_nil, Nat.reduceAdd, Nat.reduceMul, Nat.reduceLT, Nat.reduceLeDiff, Nat.reduceEqDiff, Nat.reduceSub, decide_true, true_and, and_true, and_self, if_true, if_false, Option.toList_some, Option.toList_none, List.cons_append, List.nil_append, qsL, qlong, List.length_cons, List.length_nil, iN_L, exI, iN_add, iN_mul, iN_le, iN_lt, iN_eq, Nat.le_refl, qfN0, qfN1, uX_16, vX_16, uX_19, vX_19, uX_27, vX_27, uX_30, vX_30, uX_39, vX_39, uX_41, vX_41, uX_43, vX_43, uX_46, vX_46, uX_50, vX_50, uX_53, vX_53, gX_39_2, m2, show ¬ ss.length ≤ j by omega, bit1 hml (show j < 32 by omega) b, iN10]
    | false =>
      cases q : anyN (fun o => m.testBit o && jnA ss D o j) ss.length with
      | false =>
        rw [q, bN_f] at st
        obtain ⟨m', o', r'⟩ := ih (j + 1) m (by omega) ⟨hm.1, hm.2.1, hm.2.2.1, by
          rcases hm.2.2.2 with z | z
          · refine Or.inl ⟨z.1, fun t ht hb o ho hb2 => ?_⟩
            rcases Nat.lt_or_ge t j with y | y
            · exact z.2 t y hb o ho hb2
            · have := any_f.mp q o ho
              rw [z.1, hb2, Bool.true_and] at this
              rw [show t = j by omega]; exact this
          · exact Or.inr z⟩
        refine ⟨m', o', fun R => ?_⟩
        rw [← r' R, e68_15]
        simp (disch := first | assumption | omega) only [e68_0, e68_1, e68_2, e68_3, e68_4, e68_5, e68_6, e68_9, e68_12, e68_13, e68_17, e68_18, e68_21, e68_24, e68_25, e68_27, e68_28, e68_29, e68_30, e68_33, e68_34, e68_36, e68_37, e68_38, e68_41, e68_44, e68_45, e68_46, e68_48, e68_49, e68_50, e68_51, e68_54, e68_57, e68_60, e68_63, e68_64, e68_65, e68_66, e68_69, e68_70, e68_71, e68_72, e68_75, e68_76, e68_79, e68_80, m68, ↓reduceIte, qg_0, qg_1, qg_2, qg_3, qg_4, qg_5, qg_6, qg_7, qg_8, qg_9, qg_10, qg_11, qg_12, qg_13, not_true_eq_false, not_false_eq_true, Nat.reduceBEq, Bool.false_eq_true, ex1, ex3, ex4, exF, qfit_i, qfit_l, qfit_r, qfit_n, qfit_b0, qfit_b1, qcat_i, qcat_r, qcat_n, qcat_l, qroom_0, qroom_c, List.map_cons, List.map_nil, List.sum_cons, List.sum_nil, Nat.reduceAdd, Nat.reduceMul, Nat.reduceLT, Nat.reduceLeDiff, Nat.reduceEqDiff, Nat.reduceSub, decide_true, true_and, and_true, and_self, if_true, if_false, Option.toList_some, Option.toList_none, List.cons_append, List.nil_append, qsL, qlong, List.length_cons, List.length_nil, iN_L, exI, iN_add, iN_mul, iN_le, iN_lt, iN_eq, Nat.le_refl, qfN0, qfN1, uX_16, vX_16, uX_19, vX_19, uX_27, vX_27, uX_30, vX_30, uX_39, vX_39, uX_41, vX_41, uX_43, vX_43, uX_46, vX_46, uX_50, vX_50, uX_53, vX_53, gX_39_2, m2, show ¬ ss.length ≤ j by omega, bit0 hml (show j < 32 by omega) b, st]
      | true =>
        rw [q, bN_t] at st
        obtain ⟨o, ho, hq⟩ := anyN_iff.mp q
        have hq' : m.testBit o = true ∧ jnA ss D o j = true := by
          have : (m.testBit o && jnA ss D o j) = true := hq
          rw [Bool.and_eq_true] at this; exact this
        obtain ⟨m', o', r'⟩ := ih (j + 1) (m ||| 2 ^ j) (by omega) ⟨jn_lt hm.1 hj', fun c hc => by rw [Nat.testBit_or, hm.2.1 c hc]; rfl, fun c hc => by
          rw [Nat.testBit_or, Bool.or_eq_true] at hc
          rcases hc with hc | hc
          · exact hm.2.2.1 c hc
          · have e : j = c := by rw [Nat.testBit_two_pow] at hc; exact of_decide_eq_true hc
            rw [← e]
            exact fun R r0 rs => rs o j ho hj' (hm.2.2.1 o hq'.1 R r0 rs) hq'.2, Or.inr (by
            have := pop_lt hj' b
            have := pop_mono (l := ss.length) hm.2.1
            omega)⟩
        refine ⟨m', o', fun R => ?_⟩
        have sh : iN 1 <<< (iN j &&& iN 31) = iN (2 ^ j) := iN_shl1 j (by omega)
        rw [← r' R, e68_15]
        simp (disch := first | assumption | omega) only [e68_0, e68_1, e68_2, e68_3, e68_4, e68_5, e68_6, e68_9, e68_12, e68_13, e68_17, e68_18, e68_21, e68_24, e68_25, e68_27, e68_28, e68_29, e68_30, e68_33, e68_34, e68_36, e68_37, e68_38, e68_41, e68_44, e68_45, e68_46, e68_48, e68_49, e68_50, e68_51, e68_54, e68_57, e68_60, e68_63, e68_64, e68_65, e68_66, e68_69, e68_70, e68_71, e68_72, e68_75, e68_76, e68_79, e68_80, m68, ↓reduceIte, qg_0, qg_1, qg_2, qg_3, qg_4, qg_5, qg_6, qg_7, qg_8, qg_9, qg_10, qg_11, qg_12, qg_13, not_true_eq_false, not_false_eq_true, Nat.reduceBEq, Bool.false_eq_true, ex1, ex3, ex4, exF, qfit_i, qfit_l, qfit_r, qfit_n, qfit_b0, qfit_b1, qcat_i, qcat_r, qcat_n, qcat_l, qroom_0, qroom_c, List.map_cons, List.map_nil, List.sum_cons, List.sum_nil, Nat.reduceAdd, Nat.reduceMul, Nat.reduceLT, Nat.reduceLeDiff, Nat.reduceEqDiff, Nat.reduceSub, decide_true, true_and, and_true, and_self, if_true, if_false, Option.toList_some, Option.toList_none, List.cons_append, List.nil_append, qsL, qlong, List.length_cons, List.length_nil, iN_L, exI, iN_add, iN_mul, iN_le, iN_lt, iN_eq, Nat.le_refl, qfN0, qfN1, uX_16, vX_16, uX_19, vX_19, uX_27, vX_27, uX_30, vX_30, uX_39, vX_39, uX_41, vX_41, uX_43, vX_43, uX_46, vX_46, uX_50, vX_50, uX_53, vX_53, gX_39_2, m2, show ¬ ss.length ≤ j by omega, bit0 hml (show j < 32 by omega) b, st, iN10, sh, iN_or]
set_option maxRecDepth 100000 in
set_option maxHeartbeats 16000000 in
theorem x_onePiece {D : Nat} (s : ShX h) (v : PaX h n ss) (hD : 1 ≤ D ∧ D ≤ 4) (hl : 0 < ss.length) (R : qRes) : qMC (d + 3) 68 [.ref 39, .int (iN D)] h R ↔ R = (some (.int (bB (jnB ss D))), h) := by
  have l24 := v.2.1
  have m2 := v.2.2.2.1
  have p24 := pw24 v.2.1
  have pp := Nat.two_pow_pos ss.length
  have go : ∀ (w j m : Nat) (x4 : Option Value), j + w = ss.length → m < 2 ^ ss.length → m.testBit 0 = true → (∀ c, m.testBit c = true → jnC ss D c) → (clS ss D m ∨ j < pop m ss.length) → (qEv (d + 2) 3 qk_68 4 [some (.ref 39), some (.int (iN D)), some (.int (iN m)), some (.int (iN j)), x4] [] h R ↔ R = (some (.int (bB (jnB ss D))), h)) := by
    intro w
    induction w with
    | zero =>
      intro j m x4 hj h1 h2 h3 h4
      have cl : clS ss D m := by
        rcases h4 with z | z
        · exact z
        · have := pop_le m ss.length
          omega
      have ej : jnB ss D = decide (m = 2 ^ ss.length - 1) := by
        unfold jnB
        by_cases q : m = 2 ^ ss.length - 1
        · rw [decide_eq_true q]
          refine tB_t fun c hc => h3 c ?_
          rw [q, Nat.testBit_two_pow_sub_one, decide_eq_true hc]
        · rw [decide_eq_false q]
          refine tB_f fun z => q ?_
          apply Nat.eq_of_testBit_eq
          intro i
          rw [Nat.testBit_two_pow_sub_one]
          by_cases hi' : i < ss.length
          · rw [decide_eq_true hi']
            exact (z i hi') (fun c => m.testBit c = true) h2 (fun a b ha hb hm hj => cl a b ha hb hm hj)
          · rw [decide_eq_false hi']
            exact Nat.testBit_lt_two_pow (Nat.lt_of_lt_of_le h1 (Nat.pow_le_pow_right (by decide) (by omega)))
      have e1 : iN 1 <<< (iN ss.length &&& iN 31) - iN 1 = iN (2 ^ ss.length - 1) := by rw [iN_shl1 ss.length (by omega), iN_sub (by omega)]
      rw [ej, e68_4]
      by_cases q : m = 2 ^ ss.length - 1
      · rw [decide_eq_true q, bN_t]
        simp (disch := first | assumption | omega) only [e68_0, e68_1, e68_2, e68_3, e68_5, e68_6, e68_9, e68_12, e68_13, e68_15, e68_17, e68_18, e68_21, e68_24, e68_25, e68_27, e68_28, e68_29, e68_30, e68_33, e68_34, e68_36, e68_37, e68_38, e68_41, e68_44, e68_45, e68_46, e68_48, e68_49, e68_50, e68_51, e68_54, e68_57, e68_60, e68_63, e68_64, e68_65, e68_66, e68_69, e68_70, e68_71, e68_72, e68_75, e68_76, e68_79, e68_80, m68, ↓reduceIte, qg_0, qg_1, qg_2, qg_3, qg_4, qg_5, qg_6, qg_7, qg_8, qg_9, qg_10, qg_11, qg_12, qg_13, not_true_eq_false, not_false_eq_true, Nat.reduceBEq, Bool.false_eq_true, ex1, ex3, ex4, exF, qfit_i, qfit_l, qfit_r, qfit_n, qfit_b0, qfit_b1, qcat_i, qcat_r, qcat_n, qcat_l, qroom_0, qroom_c, List.map_cons, List.map_nil, List.sum_cons, List.sum_nil, Nat.reduceAdd, Nat.reduceMul, Nat.reduceLT, Nat.reduceLeDiff, Nat.reduceEqDiff, Nat.reduceSub, decide_true, true_and, and_true, and_self, if_true, if_false, Option.toList_some, Option.toList_none, List.cons_append, List.nil_append, qsL, qlong, List.length_cons, List.length_nil, iN_L, exI, iN_add, iN_mul, iN_le, iN_lt, iN_eq, Nat.le_refl, qfN0, qfN1, uX_16, vX_16, uX_19, vX_19, uX_27, vX_27, uX_30, vX_30, uX_39, vX_39, uX_41, vX_41, uX_43, vX_43, uX_46, vX_46, uX_50, vX_50, uX_53, vX_53, gX_39_2, m2, show ss.length ≤ j by omega, e1, q]
      · rw [decide_eq_false q, bN_f]
        simp (disch := first | assumption | omega) only [e68_0, e68_1, e68_2, e68_3, e68_5, e68_6, e68_9, e68_12, e68_13, e68_15, e68_17, e68_18, e68_21, e68_24, e68_25, e68_27, e68_28, e68_29, e68_30, e68_33, e68_34, e68_36, e68_37, e68_38, e68_41, e68_44, e68_45, e68_46, e68_48, e68_49, e68_50, e68_51, e68_54, e68_57, e68_60, e68_63, e68_64, e68_65, e68_66, e68_69, e68_70, e68_71, e68_72, e68_75, e68_76, e68_79, e68_80, m68, ↓reduceIte, qg_0, qg_1, qg_2, qg_3, qg_4, qg_5, qg_6, qg_7, qg_8, qg_9, qg_10, qg_11, qg_12, qg_13, not_true_eq_false, not_false_eq_true, Nat.reduceBEq, Bool.false_eq_true, ex1, ex3, ex4, exF, qfit_i, qfit_l, qfit_r, qfit_n, qfit_b0, qfit_b1, qcat_i, qcat_r, qcat_n, qcat_l, qroom_0, qroom_c, List.map_cons, List.map_nil, List.sum_cons, List.sum_nil, Nat.reduceAdd, Nat.reduceMul, Nat.reduceLT, Nat.reduceLeDiff, Nat.reduceEqDiff, Nat.reduceSub, decide_true, true_and, and_true, and_self, if_true, if_false, Option.toList_some, Option.toList_none, List.cons_append, List.nil_append, qsL, qlong, List.length_cons, List.length_nil, iN_L, exI, iN_add, iN_mul, iN_le, iN_lt, iN_eq, Nat.le_refl, qfN0, qfN1, uX_16, vX_16, uX_19, vX_19, uX_27, vX_27, uX_30, vX_30, uX_39, vX_39, uX_41, vX_41, uX_43, vX_43, uX_46, vX_46, uX_50, vX_50, uX_53, vX_53, gX_39_2, m2, show ss.length ≤ j by omega, e1, q]
    | succ w ih =>
      intro j m x4 hj h1 h2 h3 h4
      have o0 : opS ss D m 0 m := ⟨h1, fun _ z => z, h3, Or.inl ⟨rfl, fun t ht => absurd ht (Nat.not_lt_zero t)⟩⟩
      obtain ⟨m', o', r'⟩ := op_round (d := d) (r := j) s v hD o0 ss.length 0 m (by omega) o0
      have st : qEv (d + 2) 3 qk_68 4 [some (.ref 39), some (.int (iN D)), some (.int (iN m)), some (.int (iN j)), x4] [] h R ↔ qEv (d + 2) 3 qk_68 15 [some (.ref 39), some (.int (iN D)), some (.int (iN m)), some (.int (iN j)), some (.int (iN 0))] [] h R := by
        rw [e68_4]
        simp (disch := first | assumption | omega) only [e68_0, e68_1, e68_2, e68_3, e68_5, e68_6, e68_9, e68_12, e68_13, e68_17, e68_18, e68_21, e68_24, e68_25, e68_27, e68_28, e68_29, e68_30, e68_33, e68_34, e68_36, e68_37, e68_38, e68_41, e68_44, e68_45, e68_46, e68_48, e68_49, e68_50, e68_51, e68_54, e68_57, e68_60, e68_63, e68_64, e68_65, e68_66, e68_69, e68_70, e68_71, e68_72, e68_75, e68_76, e68_79, e68_80, m68, ↓reduceIte, qg_0, qg_1, qg_2, qg_3, qg_4, qg_5, qg_6, qg_7, qg_8, qg_9, qg_10, qg_11, qg_12, qg_13, not_true_eq_false, not_false_eq_true, Nat.reduceBEq, Bool.false_eq_true, ex1, ex3, ex4, exF, qfit_i, qfit_l, qfit_r, qfit_n, qfit_b0, qfit_b1, qcat_i, qcat_r, qcat_n, qcat_l, qroom_0, qroom_c, List.map_cons, List.map_nil, List.sum_cons, List.sum_nil, Nat.reduceAdd, Nat.reduceMul, Nat.reduceLT, Nat.reduceLeDiff, Nat.reduceEqDiff, Nat.reduceSub, decide_true, true_and, and_true, and_self, if_true, if_false, Option.toList_some, Option.toList_none, List.cons_append, List.nil_append, qsL, qlong, List.length_cons, List.length_nil, iN_L, exI, iN_add, iN_mul, iN_le, iN_lt, iN_eq, Nat.le_refl, qfN0, qfN1, uX_16, vX_16, uX_19, vX_19, uX_27, vX_27, uX_30, vX_30, uX_39, vX_39, uX_41, vX_41, uX_43, vX_43, uX_46, vX_46, uX_50, vX_50, uX_53, vX_53, gX_39_2, m2, show ¬ ss.length ≤ j by omega]
      rw [st, r' R]
      refine ih (j + 1) m' _ (by omega) o'.1 (o'.2.1 0 h2) o'.2.2.1 ?_
      rcases o'.2.2.2 with z | z
      · refine Or.inl ?_
        rw [z.1]
        intro o t ho ht hb hj
        cases e : m.testBit t with
        | true => rfl
        | false => rw [z.2 t ht e o ho hb] at hj; cases hj
      · rcases h4 with y | y
        · refine Or.inl ?_
          have em : m' = m := by
            apply Nat.eq_of_testBit_eq
            intro i
            cases e : m.testBit i with
            | true => exact o'.2.1 i e
            | false =>
              cases e2 : m'.testBit i with
              | false => rfl
              | true =>
                have := o'.2.2.1 i e2 (fun c => m.testBit c = true) h2 (fun a b ha hb hm hj => y a b ha hb hm hj)
                rw [e] at this; cases this
          rw [em]; exact y
        · exact Or.inr (by omega)
  have r0 : qMC (d + 3) 68 [.ref 39, .int (iN D)] h R ↔ qEv (d + 2) 3 qk_68 4 [some (.ref 39), some (.int (iN D)), some (.int (iN 1)), some (.int (iN 0)), none] [] h R := by
    simp (disch := first | assumption | omega) only [e68_0, e68_1, e68_2, e68_3, e68_5, e68_6, e68_9, e68_12, e68_13, e68_15, e68_17, e68_18, e68_21, e68_24, e68_25, e68_27, e68_28, e68_29, e68_30, e68_33, e68_34, e68_36, e68_37, e68_38, e68_41, e68_44, e68_45, e68_46, e68_48, e68_49, e68_50, e68_51, e68_54, e68_57, e68_60, e68_63, e68_64, e68_65, e68_66, e68_69, e68_70, e68_71, e68_72, e68_75, e68_76, e68_79, e68_80, m68, ↓reduceIte, qg_0, qg_1, qg_2, qg_3, qg_4, qg_5, qg_6, qg_7, qg_8, qg_9, qg_10, qg_11, qg_12, qg_13, not_true_eq_false, not_false_eq_true, Nat.reduceBEq, Bool.false_eq_true, ex1, ex3, ex4, exF, qfit_i, qfit_l, qfit_r, qfit_n, qfit_b0, qfit_b1, qcat_i, qcat_r, qcat_n, qcat_l, qroom_0, qroom_c, List.map_cons, List.map_nil, List.sum_cons, List.sum_nil, Nat.reduceAdd, Nat.reduceMul, Nat.reduceLT, Nat.reduceLeDiff, Nat.reduceEqDiff, Nat.reduceSub, decide_true, true_and, and_true, and_self, if_true, if_false, Option.toList_some, Option.toList_none, List.cons_append, List.nil_append, qsL, qlong, List.length_cons, List.length_nil, iN_L, exI, iN_add, iN_mul, iN_le, iN_lt, iN_eq, Nat.le_refl, qfN0, qfN1, uX_16, vX_16, uX_19, vX_19, uX_27, vX_27, uX_30, vX_30, uX_39, vX_39, uX_41, vX_41, uX_43, vX_43, uX_46, vX_46, uX_50, vX_50, uX_53, vX_53]
  rw [r0]
  refine go ss.length 0 1 _ (by omega) ?_ (by decide) (fun c hc => ?_) (Or.inr (cntN_pos.mpr ⟨0, hl, by decide⟩))
  · exact Nat.one_lt_two_pow (by omega)
  · have e : c = 0 := by
      have : (2 ^ 0).testBit c = true := hc
      rw [Nat.testBit_two_pow] at this
      exact (of_decide_eq_true this).symm
    rw [e]
    exact fun R r0 _ => r0
theorem psT_s {D x : Nat} (h1 : pop x 24 ≤ D) (h2 : 0 < cntN (lyB ss x) ss.length) (h3 : 1 ≤ pop x 24) : psT ss D x = sgn (pop x 24 - 1) := by
  unfold psT sgn
  rw [if_pos ⟨h1, anyN_iff.mpr (cntN_pos.mp h2)⟩]
  by_cases q : pop x 24 % 2 = 1
  · rw [if_pos q, if_pos (by omega)]
  · rw [if_neg q, if_neg (by omega)]
theorem psT_n {D x : Nat} (h1 : ¬ (pop x 24 ≤ D ∧ 0 < cntN (lyB ss x) ss.length)) : psT ss D x = 0 := by
  unfold psT
  exact if_neg fun z => h1 ⟨z.1, cntN_pos.mpr (anyN_iff.mp z.2)⟩
set_option maxRecDepth 100000 in
set_option maxHeartbeats 16000000 in
theorem x_signedParts {D : Nat} (s : ShX h) (v : PaX h n ss) (hD : D ≤ 4) (R : qRes) : qMC (d + 2) 70 [.ref 39, .int (iN D)] h R ↔ R = (some (.int (iZ (psS ss D (2 ^ n - 1)))), h) := by
  have n12 := v.1
  have p12 := pw12 v.1.2
  have pp := Nat.two_pow_pos n
  have l24 := v.2.1
  have m0 := v.2.2.1
  have e1 : iN 1 <<< (iN n &&& iN 31) = iN (2 ^ n) := iN_shl1 n (by omega)
  have go : ∀ (w x : Nat) (x4 : Option Value), x + w = 2 ^ n - 1 → (qEv (d + 1) 0 qk_70 4 [some (.ref 39), some (.int (iN D)), some (.int (iZ (psS ss D x))), some (.int (iN (x + 1))), x4] [] h R ↔ R = (some (.int (iZ (psS ss D (2 ^ n - 1)))), h)) := by
    intro w
    induction w with
    | zero =>
      intro x x4 hx
      rw [show x = 2 ^ n - 1 by omega, e70_4]
      simp (disch := first | assumption | omega) only [e70_0, e70_1, e70_2, e70_3, e70_5, e70_6, e70_7, e70_10, e70_11, e70_14, e70_15, e70_18, e70_20, e70_22, e70_23, e70_26, e70_27, e70_28, e70_31, e70_34, e70_35, e70_37, e70_38, e70_39, e70_42, e70_43, e70_44, e70_47, e70_50, e70_51, m70, ↓reduceIte, qg_0, qg_1, qg_2, qg_3, qg_4, qg_5, qg_6, qg_7, qg_8, qg_9, qg_10, qg_11, qg_12, qg_13, not_true_eq_false, not_false_eq_true, Nat.reduceBEq, Bool.false_eq_true, ex1, ex3, ex4, exF, qfit_i, qfit_l, qfit_r, qfit_n, qfit_b0, qfit_b1, qcat_i, qcat_r, qcat_n, qcat_l, qroom_0, qroom_c, List.map_cons, List.map_nil, List.sum_cons, List.sum_nil, Nat.reduceAdd, Nat.reduceMul, Nat.reduceLT, Nat.reduceLeDiff, Nat.reduceEqDiff, Nat.reduceSub, decide_true, true_and, and_true, and_self, if_true, if_false, Option.toList_some, Option.toList_none, List.cons_append, List.nil_append, qsL, qlong, List.length_cons, List.length_nil, iN_L, exI, iN_add, iN_mul, iN_le, iN_lt, iN_eq, Nat.le_refl, qfN0, qfN1, uX_16, vX_16, uX_19, vX_19, uX_27, vX_27, uX_30, vX_30, uX_39, vX_39, uX_41, vX_41, uX_43, vX_43, uX_46, vX_46, uX_50, vX_50, uX_53, vX_53, gX_39_0, m0, e1, show 2 ^ n ≤ 2 ^ n - 1 + 1 by omega]
    | succ w ih =>
      intro x x4 hx
      have sb : ∀ R, qMC (d + 1) 308 [.int (iN (x + 1))] h R ↔ R = (some (.int (iN (pop (x + 1) 24))), h) := fun R => x_bitCount (by omega)
      have sa : ∀ R, qMC (d + 1) 66 [.ref 39, .int (iN (x + 1))] h R ↔ R = (some (.int (iN (cntN (lyB ss (x + 1)) ss.length))), h) := fun R => x_setsAround s v (by omega) R
      have pl := pop_le (x + 1) 24
      have pp1 : 1 ≤ pop (x + 1) 24 := pop_pos (by omega) (by omega)
      have cl := cntN_le (p := lyB ss (x + 1)) (n := ss.length)
      rw [← ih (x + 1) (some (.int (iN (pop (x + 1) 24)))) (by omega), e70_4, psS]
      by_cases q1 : pop (x + 1) 24 ≤ D
      · by_cases q2 : 0 < cntN (lyB ss (x + 1)) ss.length
        · have sg : ∀ R, qMC (d + 1) 177 [.int (iN (pop (x + 1) 24 - 1))] h R ↔ R = (some (.int (iZ (sgn (pop (x + 1) 24 - 1)))), h) := fun R => x_signOf R
          have es : iN (pop (x + 1) 24) - iN 1 = iN (pop (x + 1) 24 - 1) := iN_sub pp1
          rw [psT_s q1 q2 pp1]
          simp (disch := first | assumption | omega) only [e70_0, e70_1, e70_2, e70_3, e70_5, e70_6, e70_7, e70_10, e70_11, e70_14, e70_15, e70_18, e70_20, e70_22, e70_23, e70_26, e70_27, e70_28, e70_31, e70_34, e70_35, e70_37, e70_38, e70_39, e70_42, e70_43, e70_44, e70_47, e70_50, e70_51, m70, ↓reduceIte, qg_0, qg_1, qg_2, qg_3, qg_4, qg_5, qg_6, qg_7, qg_8, qg_9, qg_10, qg_11, qg_12, qg_13, not_true_eq_false, not_false_eq_true, Nat.reduceBEq, Bool.false_eq_true, ex1, ex3, ex4, exF, qfit_i, qfit_l, qfit_r, qfit_n, qfit_b0, qfit_b1, qcat_i, qcat_r, qcat_n, qcat_l, qroom_0, qroom_c, List.map_cons, List.map_nil, List.sum_cons, List.sum_nil, Nat.reduceAdd, Nat.reduceMul, Nat.reduceLT, Nat.reduceLeDiff, Nat.reduceEqDiff, Nat.reduceSub, decide_true, true_and, and_true, and_self, if_true, if_false, Option.toList_some, Option.toList_none, List.cons_append, List.nil_append, qsL, qlong, List.length_cons, List.length_nil, iN_L, exI, iN_add, iN_mul, iN_le, iN_lt, iN_eq, Nat.le_refl, qfN0, qfN1, uX_16, vX_16, uX_19, vX_19, uX_27, vX_27, uX_30, vX_30, uX_39, vX_39, uX_41, vX_41, uX_43, vX_43, uX_46, vX_46, uX_50, vX_50, uX_53, vX_53, gX_39_0, m0, e1, show ¬ 2 ^ n ≤ x + 1 by omega, sb, show ¬ D < pop (x + 1) 24 by omega, sa, show ¬ cntN (lyB ss (x + 1)) ss.length ≤ 0 by omega, es, sg, iZ_add]
        · rw [psT_n (fun z => q2 z.2), Int.add_zero]
          simp (disch := first | assumption | omega) only [e70_0, e70_1, e70_2, e70_3, e70_5, e70_6, e70_7, e70_10, e70_11, e70_14, e70_15, e70_18, e70_20, e70_22, e70_23, e70_26, e70_27, e70_28, e70_31, e70_34, e70_35, e70_37, e70_38, e70_39, e70_42, e70_43, e70_44, e70_47, e70_50, e70_51, m70, ↓reduceIte, qg_0, qg_1, qg_2, qg_3, qg_4, qg_5, qg_6, qg_7, qg_8, qg_9, qg_10, qg_11, qg_12, qg_13, not_true_eq_false, not_false_eq_true, Nat.reduceBEq, Bool.false_eq_true, ex1, ex3, ex4, exF, qfit_i, qfit_l, qfit_r, qfit_n, qfit_b0, qfit_b1, qcat_i, qcat_r, qcat_n, qcat_l, qroom_0, qroom_c, List.map_cons, List.map_nil, List.sum_cons, List.sum_nil, Nat.reduceAdd, Nat.reduceMul, Nat.reduceLT, Nat.reduceLeDiff, Nat.reduceEqDiff, Nat.reduceSub, decide_true, true_and, and_true, and_self, if_true, if_false, Option.toList_some, Option.toList_none, List.cons_append, List.nil_append, qsL, qlong, List.length_cons, List.length_nil, iN_L, exI, iN_add, iN_mul, iN_le, iN_lt, iN_eq, Nat.le_refl, qfN0, qfN1, uX_16, vX_16, uX_19, vX_19, uX_27, vX_27, uX_30, vX_30, uX_39, vX_39, uX_41, vX_41, uX_43, vX_43, uX_46, vX_46, uX_50, vX_50, uX_53, vX_53, gX_39_0, m0, e1, show ¬ 2 ^ n ≤ x + 1 by omega, sb, show ¬ D < pop (x + 1) 24 by omega, sa, show cntN (lyB ss (x + 1)) ss.length ≤ 0 by omega]
      · rw [psT_n (fun z => q1 z.1), Int.add_zero]
        simp (disch := first | assumption | omega) only [e70_0, e70_1, e70_2, e70_3, e70_5, e70_6, e70_7, e70_10, e70_11, e70_14, e70_15, e70_18, e70_20, e70_22, e70_23, e70_26, e70_27, e70_28, e70_31, e70_34, e70_35, e70_37, e70_38, e70_39, e70_42, e70_43, e70_44, e70_47, e70_50, e70_51, m70, ↓reduceIte, qg_0, qg_1, qg_2, qg_3, qg_4, qg_5, qg_6, qg_7, qg_8, qg_9, qg_10, qg_11, qg_12, qg_13, not_true_eq_false, not_false_eq_true, Nat.reduceBEq, Bool.false_eq_true, ex1, ex3, ex4, exF, qfit_i, qfit_l, qfit_r, qfit_n, qfit_b0, qfit_b1, qcat_i, qcat_r, qcat_n, qcat_l, qroom_0, qroom_c, List.map_cons, List.map_nil, List.sum_cons, List.sum_nil, Nat.reduceAdd, Nat.reduceMul, Nat.reduceLT, Nat.reduceLeDiff, Nat.reduceEqDiff, Nat.reduceSub, decide_true, true_and, and_true, and_self, if_true, if_false, Option.toList_some, Option.toList_none, List.cons_append, List.nil_append, qsL, qlong, List.length_cons, List.length_nil, iN_L, exI, iN_add, iN_mul, iN_le, iN_lt, iN_eq, Nat.le_refl, qfN0, qfN1, uX_16, vX_16, uX_19, vX_19, uX_27, vX_27, uX_30, vX_30, uX_39, vX_39, uX_41, vX_41, uX_43, vX_43, uX_46, vX_46, uX_50, vX_50, uX_53, vX_53, gX_39_0, m0, e1, show ¬ 2 ^ n ≤ x + 1 by omega, sb, show D < pop (x + 1) 24 by omega]
  have r0 : qMC (d + 2) 70 [.ref 39, .int (iN D)] h R ↔ qEv (d + 1) 0 qk_70 4 [some (.ref 39), some (.int (iN D)), some (.int (iZ (psS ss D 0))), some (.int (iN (0 + 1))), none] [] h R := by
    rw [show psS ss D 0 = 0 from rfl, show iZ 0 = iN 0 from rfl]
    simp (disch := first | assumption | omega) only [e70_0, e70_1, e70_2, e70_3, e70_5, e70_6, e70_7, e70_10, e70_11, e70_14, e70_15, e70_18, e70_20, e70_22, e70_23, e70_26, e70_27, e70_28, e70_31, e70_34, e70_35, e70_37, e70_38, e70_39, e70_42, e70_43, e70_44, e70_47, e70_50, e70_51, m70, ↓reduceIte, qg_0, qg_1, qg_2, qg_3, qg_4, qg_5, qg_6, qg_7, qg_8, qg_9, qg_10, qg_11, qg_12, qg_13, not_true_eq_false, not_false_eq_true, Nat.reduceBEq, Bool.false_eq_true, ex1, ex3, ex4, exF, qfit_i, qfit_l, qfit_r, qfit_n, qfit_b0, qfit_b1, qcat_i, qcat_r, qcat_n, qcat_l, qroom_0, qroom_c, List.map_cons, List.map_nil, List.sum_cons, List.sum_nil, Nat.reduceAdd, Nat.reduceMul, Nat.reduceLT, Nat.reduceLeDiff, Nat.reduceEqDiff, Nat.reduceSub, decide_true, true_and, and_true, and_self, if_true, if_false, Option.toList_some, Option.toList_none, List.cons_append, List.nil_append, qsL, qlong, List.length_cons, List.length_nil, iN_L, exI, iN_add, iN_mul, iN_le, iN_lt, iN_eq, Nat.le_refl, qfN0, qfN1, uX_16, vX_16, uX_19, vX_19, uX_27, vX_27, uX_30, vX_30, uX_39, vX_39, uX_41, vX_41, uX_43, vX_43, uX_46, vX_46, uX_50, vX_50, uX_53, vX_53]
  rw [r0]
  exact go (2 ^ n - 1) 0 _ (by omega)
/-- the first law that is broken -/
noncomputable def brkN (n : Nat) (ss : List Nat) (D : Nat) : Nat := if allN (fun c => anyN (lyB ss (2 ^ c)) ss.length) n = false then 1 else if twB ss n = false then 2 else if jnB ss D = false then 3 else if psS ss D (2 ^ n - 1) = (if D % 2 = 0 then 0 else 2) then 0 else 4
theorem brk_le {D : Nat} : brkN n ss D ≤ 4 := by
  unfold brkN
  split
  · omega
  · split
    · omega
    · split
      · omega
      · exact (fun (p : Prop) [Decidable p] => (by by_cases z : p <;> simp [z] : (if p then 0 else 4 : Nat) ≤ 4)) _
set_option maxRecDepth 100000 in
set_option maxHeartbeats 16000000 in
theorem x_firstBroken {D : Nat} (s : ShX h) (v : PaX h n ss) (hD : 2 ≤ D ∧ D ≤ 4) (hl : 0 < ss.length) (R : qRes) : qMC (d + 4) 64 [.ref 39, .int (iN D)] h R ↔ R = (some (.int (iN (brkN n ss D))), h) := by
  have p12 := pw12 v.1.2
  have r1 : ∀ R, qMC (d + 3) 65 [.ref 39] h R ↔ _ := fun R => x_usesAll s v R
  have r2 : ∀ R, qMC (d + 3) 67 [.ref 39] h R ↔ _ := fun R => x_inTwo s v R
  have r3 : ∀ R, qMC (d + 3) 68 [.ref 39, .int (iN D)] h R ↔ _ := fun R => x_onePiece s v ⟨by omega, hD.2⟩ hl R
  have r4 : ∀ R, qMC (d + 3) 70 [.ref 39, .int (iN D)] h R ↔ _ := fun R => x_signedParts s v hD.2 R
  have r5 : ∀ R, qMC (d + 3) 177 [.int (iN D)] h R ↔ R = (some (.int (iZ (sgn D))), h) := fun R => x_signOf R
  have eb := psS_b (ss := ss) (D := D) (2 ^ n - 1)
  unfold brkN
  cases q1 : allN (fun c => anyN (lyB ss (2 ^ c)) ss.length) n with
  | false =>
    rw [q1, bN_f] at r1
    rw [if_pos rfl]
    simp (disch := first | assumption | omega) only [e64_0, e64_1, e64_4, e64_7, e64_8, e64_9, e64_10, e64_13, e64_16, e64_17, e64_18, e64_19, e64_20, e64_23, e64_26, e64_27, e64_28, e64_29, e64_30, e64_33, e64_34, e64_35, e64_38, e64_39, e64_42, e64_43, e64_46, e64_47, m64, ↓reduceIte, qg_0, qg_1, qg_2, qg_3, qg_4, qg_5, qg_6, qg_7, qg_8, qg_9, qg_10, qg_11, qg_12, qg_13, not_true_eq_false, not_false_eq_true, Nat.reduceBEq, Bool.false_eq_true, ex1, ex3, ex4, exF, qfit_i, qfit_l, qfit_r, qfit_n, qfit_b0, qfit_b1, qcat_i, qcat_r, qcat_n, qcat_l, qroom_0, qroom_c, List.map_cons, List.map_nil, List.sum_cons, List.sum_nil, Nat.reduceAdd, Nat.reduceMul, Nat.reduceLT, Nat.reduceLeDiff, Nat.reduceEqDiff, Nat.reduceSub, decide_true, true_and, and_true, and_self, if_true, if_false, Option.toList_some, Option.toList_none, List.cons_append, List.nil_append, qsL, qlong, List.length_cons, List.length_nil, iN_L, exI, iN_add, iN_mul, iN_le, iN_lt, iN_eq, Nat.le_refl, qfN0, qfN1, uX_16, vX_16, uX_19, vX_19, uX_27, vX_27, uX_30, vX_30, uX_39, vX_39, uX_41, vX_41, uX_43, vX_43, uX_46, vX_46, uX_50, vX_50, uX_53, vX_53, r1]
  | true =>
    rw [q1, bN_t] at r1
    rw [if_neg (by decide)]
    cases q2 : twB ss n with
    | false =>
      rw [q2, bN_f] at r2
      rw [if_pos rfl]
      simp (disch := first | assumption | omega) only [e64_0, e64_1, e64_4, e64_7, e64_8, e64_9, e64_10, e64_13, e64_16, e64_17, e64_18, e64_19, e64_20, e64_23, e64_26, e64_27, e64_28, e64_29, e64_30, e64_33, e64_34, e64_35, e64_38, e64_39, e64_42, e64_43, e64_46, e64_47, m64, ↓reduceIte, qg_0, qg_1, qg_2, qg_3, qg_4, qg_5, qg_6, qg_7, qg_8, qg_9, qg_10, qg_11, qg_12, qg_13, not_true_eq_false, not_false_eq_true, Nat.reduceBEq, Bool.false_eq_true, ex1, ex3, ex4, exF, qfit_i, qfit_l, qfit_r, qfit_n, qfit_b0, qfit_b1, qcat_i, qcat_r, qcat_n, qcat_l, qroom_0, qroom_c, List.map_cons, List.map_nil, List.sum_cons, List.sum_nil, Nat.reduceAdd, Nat.reduceMul, Nat.reduceLT, Nat.reduceLeDiff, Nat.reduceEqDiff, Nat.reduceSub, decide_true, true_and, and_true, and_self, if_true, if_false, Option.toList_some, Option.toList_none, List.cons_append, List.nil_append, qsL, qlong, List.length_cons, List.length_nil, iN_L, exI, iN_add, iN_mul, iN_le, iN_lt, iN_eq, Nat.le_refl, qfN0, qfN1, uX_16, vX_16, uX_19, vX_19, uX_27, vX_27, uX_30, vX_30, uX_39, vX_39, uX_41, vX_41, uX_43, vX_43, uX_46, vX_46, uX_50, vX_50, uX_53, vX_53, r1, r2, iN10]
    | true =>
      rw [q2, bN_t] at r2
      rw [if_neg (by decide)]
      cases q3 : jnB ss D with
      | false =>
        rw [q3, bN_f] at r3
        rw [if_pos rfl]
        simp (disch := first | assumption | omega) only [e64_0, e64_1, e64_4, e64_7, e64_8, e64_9, e64_10, e64_13, e64_16, e64_17, e64_18, e64_19, e64_20, e64_23, e64_26, e64_27, e64_28, e64_29, e64_30, e64_33, e64_34, e64_35, e64_38, e64_39, e64_42, e64_43, e64_46, e64_47, m64, ↓reduceIte, qg_0, qg_1, qg_2, qg_3, qg_4, qg_5, qg_6, qg_7, qg_8, qg_9, qg_10, qg_11, qg_12, qg_13, not_true_eq_false, not_false_eq_true, Nat.reduceBEq, Bool.false_eq_true, ex1, ex3, ex4, exF, qfit_i, qfit_l, qfit_r, qfit_n, qfit_b0, qfit_b1, qcat_i, qcat_r, qcat_n, qcat_l, qroom_0, qroom_c, List.map_cons, List.map_nil, List.sum_cons, List.sum_nil, Nat.reduceAdd, Nat.reduceMul, Nat.reduceLT, Nat.reduceLeDiff, Nat.reduceEqDiff, Nat.reduceSub, decide_true, true_and, and_true, and_self, if_true, if_false, Option.toList_some, Option.toList_none, List.cons_append, List.nil_append, qsL, qlong, List.length_cons, List.length_nil, iN_L, exI, iN_add, iN_mul, iN_le, iN_lt, iN_eq, Nat.le_refl, qfN0, qfN1, uX_16, vX_16, uX_19, vX_19, uX_27, vX_27, uX_30, vX_30, uX_39, vX_39, uX_41, vX_41, uX_43, vX_43, uX_46, vX_46, uX_50, vX_50, uX_53, vX_53, r1, r2, r3, iN10]
      | true =>
        rw [q3, bN_t] at r3
        rw [if_neg (by decide)]
        have es : iN 1 - iZ (sgn D) = iZ (1 - sgn D) := iZ_sub 1 (sgn D)
        have e2 : 1 - sgn D = (if D % 2 = 0 then 0 else 2) := by
          unfold sgn
          split <;> rfl
        have sb : iB (1 - sgn D) := by
          rw [e2]
          unfold iB
          split <;> omega
        have pb : iB (psS ss D (2 ^ n - 1)) := by unfold iB; omega
        by_cases q4 : psS ss D (2 ^ n - 1) = (if D % 2 = 0 then 0 else 2)
        · rw [if_pos q4]
          have q5 : (iZ (psS ss D (2 ^ n - 1)) = iZ (1 - sgn D)) ↔ True := ⟨fun _ => trivial, fun _ => by rw [q4, e2]⟩
          simp (disch := first | assumption | omega) only [e64_0, e64_1, e64_4, e64_7, e64_8, e64_9, e64_10, e64_13, e64_16, e64_17, e64_18, e64_19, e64_20, e64_23, e64_26, e64_27, e64_28, e64_29, e64_30, e64_33, e64_34, e64_35, e64_38, e64_39, e64_42, e64_43, e64_46, e64_47, m64, ↓reduceIte, qg_0, qg_1, qg_2, qg_3, qg_4, qg_5, qg_6, qg_7, qg_8, qg_9, qg_10, qg_11, qg_12, qg_13, not_true_eq_false, not_false_eq_true, Nat.reduceBEq, Bool.false_eq_true, ex1, ex3, ex4, exF, qfit_i, qfit_l, qfit_r, qfit_n, qfit_b0, qfit_b1, qcat_i, qcat_r, qcat_n, qcat_l, qroom_0, qroom_c, List.map_cons, List.map_nil, List.sum_cons, List.sum_nil, Nat.reduceAdd, Nat.reduceMul, Nat.reduceLT, Nat.reduceLeDiff, Nat.reduceEqDiff, Nat.reduceSub, decide_true, true_and, and_true, and_self, if_true, if_false, Option.toList_some, Option.toList_none, List.cons_append, List.nil_append, qsL, qlong, List.length_cons, List.length_nil, iN_L, exI, iN_add, iN_mul, iN_le, iN_lt, iN_eq, Nat.le_refl, qfN0, qfN1, uX_16, vX_16, uX_19, vX_19, uX_27, vX_27, uX_30, vX_30, uX_39, vX_39, uX_41, vX_41, uX_43, vX_43, uX_46, vX_46, uX_50, vX_50, uX_53, vX_53, r1, r2, r3, r4, r5, iN10, es, q5]
        · rw [if_neg q4]
          have q5 : (iZ (psS ss D (2 ^ n - 1)) = iZ (1 - sgn D)) ↔ False := ⟨fun z => q4 (by rw [iZ_eq pb sb, e2] at z; exact z), False.elim⟩
          simp (disch := first | assumption | omega) only [e64_0, e64_1, e64_4, e64_7, e64_8, e64_9, e64_10, e64_13, e64_16, e64_17, e64_18, e64_19, e64_20, e64_23, e64_26, e64_27, e64_28, e64_29, e64_30, e64_33, e64_34, e64_35, e64_38, e64_39, e64_42, e64_43, e64_46, e64_47, m64, ↓reduceIte, qg_0, qg_1, qg_2, qg_3, qg_4, qg_5, qg_6, qg_7, qg_8, qg_9, qg_10, qg_11, qg_12, qg_13, not_true_eq_false, not_false_eq_true, Nat.reduceBEq, Bool.false_eq_true, ex1, ex3, ex4, exF, qfit_i, qfit_l, qfit_r, qfit_n, qfit_b0, qfit_b1, qcat_i, qcat_r, qcat_n, qcat_l, qroom_0, qroom_c, List.map_cons, List.map_nil, List.sum_cons, List.sum_nil, Nat.reduceAdd, Nat.reduceMul, Nat.reduceLT, Nat.reduceLeDiff, Nat.reduceEqDiff, Nat.reduceSub, decide_true, true_and, and_true, and_self, if_true, if_false, Option.toList_some, Option.toList_none, List.cons_append, List.nil_append, qsL, qlong, List.length_cons, List.length_nil, iN_L, exI, iN_add, iN_mul, iN_le, iN_lt, iN_eq, Nat.le_refl, qfN0, qfN1, uX_16, vX_16, uX_19, vX_19, uX_27, vX_27, uX_30, vX_30, uX_39, vX_39, uX_41, vX_41, uX_43, vX_43, uX_46, vX_46, uX_50, vX_50, uX_53, vX_53, r1, r2, r3, r4, r5, iN10, es, q5]
end XPLAN2

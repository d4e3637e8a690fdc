/-! ===== THE CLASS: meets, fresh, the calls ===== -/
section XMEETS2
variable {d : Nat} {h : qH} {bs : List bdy} {sa : Nat → Nat} {R : qRes} {r : List Nat}
set_option maxRecDepth 100000 in
set_option maxHeartbeats 16000000 in
theorem x_sparedAt {i j : Nat} (s : ShX h) (X : BsX h bs sa) (hi' : i < bs.length) (rv : RwX h r) (ho : rowOf bs i r = true) (hj : j < r.length) : qMC (d + 2) 11 [.ref 41, .ref (sa i), .int (iN j)] h R ↔ R = (some (.int (iN (spA (rwF (fct bs i) r) j j))), h) := by
  obtain ⟨p, q, w, e, B, S, P⟩ := X.at hi'
  obtain ⟨⟨u16, ult, uF⟩, g0, g1, g2, g3, g4, g5, g6⟩ := S.obj
  obtain ⟨r1, r2, r3⟩ := rv
  have hD := P.1
  have fs : ∀ R, qMC (d + 1) 107 [.ref (sa i)] h R ↔ R = (some (.ref (B (dmn bs i - 1))), h) := fun R => x_facetSets S P.1
  have at' : ∀ k, k < r.length → qiald h 42 (iN k) = some (iN (r.getD k 0)) ∧ qiald h (B (dmn bs i - 1)) (iN (r.getD k 0)) = some (iN (rwF (fct bs i) r k)) ∧ rwF (fct bs i) r k < 65536 := by
    intro k hk
    obtain ⟨v1, v2⟩ := r3 k hk
    have hlt := rwF_ok ho hk
    refine ⟨by rw [rX_42 s (by omega), v1], S.ck (K := dmn bs i - 1) (by omega) hlt, (P.f hlt).2⟩
  obtain ⟨j1, j2, j3⟩ := at' j hj
  obtain ⟨F, eF⟩ : ∃ F, F = rwF (fct bs i) r := ⟨_, rfl⟩
  rw [← eF] at j2 j3 at' ⊢
  have go : ∀ (w' k : Nat) (x7 : Option Value), k + w' = j → (qEv (d + 1) 0 qk_11 21 [some (.ref 41), some (.ref (sa i)), some (.int (iN j)), some (.ref (B (dmn bs i - 1))), some (.int (iN (F j))), some (.int (iN (spA F j k))), some (.int (iN k)), x7] [] h R ↔ R = (some (.int (iN (spA F j j))), h)) := by
    intro w'
    induction w' with
    | zero =>
      intro k x7 hk
      rw [show k = j by omega, e11_21]
      simp (disch := first | assumption | omega) only [e11_0, e11_1, e11_4, e11_5, e11_6, e11_7, e11_10, e11_11, e11_12, e11_13, e11_15, e11_16, e11_18, e11_19, e11_23, e11_24, e11_27, e11_29, e11_30, e11_31, e11_34, e11_36, e11_37, e11_38, e11_39, e11_40, e11_41, e11_43, e11_45, e11_48, e11_49, e11_52, e11_54, e11_56, e11_57, e11_59, e11_62, e11_65, e11_67, m11, ↓reduceIte, qg_0, qg_1, qg_2, qg_3, qg_4, qg_5, qg_6, qg_7, qg_8, qg_9, qg_10, qg_11, qg_12, qg_13, not_true_eq_false, not_false_eq_true, Nat.reduceBEq, Bool.false_eq_true, ex1, ex3, ex4, exF, qfit_i, qfit_l, qfit_r, qfit_n, qfit_b0, qfit_b1, qcat_i, qcat_r, qcat_n, qcat_l, qroom_0, qroom_c, List.map_cons, List.map_nil, List.sum_cons, List.sum_nil, Nat.reduceAdd, Nat.reduceMul, Nat.reduceLT, Nat.reduceLeDiff, Nat.reduceEqDiff, Nat.reduceSub, decide_true, true_and, and_true, and_self, if_true, if_false, Option.toList_some, Option.toList_none, List.cons_append, List.nil_append, qsL, qlong, List.length_cons, List.length_nil, iN_L, exI, iN_add, iN_mul, iN_le, iN_lt, iN_eq, Nat.le_refl, qfN0, qfN1, uX_16, vX_16, uX_19, vX_19, uX_27, vX_27, uX_30, vX_30, uX_39, vX_39, uX_41, vX_41, uX_43, vX_43, uX_46, vX_46, uX_50, vX_50, uX_53, vX_53]
    | succ w' ih =>
      intro k x7 hk
      obtain ⟨k1, k2, k3⟩ := at' k (by omega)
      have wl := wo_le (F j) (F k)
      have sb : ∀ R, qMC (d + 1) 308 [.int (iN (wo (F j) (F k)))] h R ↔ R = (some (.int (iN (pop (wo (F j) (F k)) 24))), h) := fun R => x_bitCount (by omega)
      have pl := pop_le (wo (F j) (F k)) 24
      rw [← ih (k + 1) (some (.int (iN (wo (F j) (F k))))) (by omega), e11_21, spA]
      by_cases z : pop (wo (F j) (F k)) 24 = 1
      · rw [if_pos z]
        simp (disch := first | assumption | omega) only [e11_0, e11_1, e11_4, e11_5, e11_6, e11_7, e11_10, e11_11, e11_12, e11_13, e11_15, e11_16, e11_18, e11_19, e11_23, e11_24, e11_27, e11_29, e11_30, e11_31, e11_34, e11_36, e11_37, e11_38, e11_39, e11_40, e11_41, e11_43, e11_45, e11_48, e11_49, e11_52, e11_54, e11_56, e11_57, e11_59, e11_62, e11_65, e11_67, m11, ↓reduceIte, qg_0, qg_1, qg_2, qg_3, qg_4, qg_5, qg_6, qg_7, qg_8, qg_9, qg_10, qg_11, qg_12, qg_13, not_true_eq_false, not_false_eq_true, Nat.reduceBEq, Bool.false_eq_true, ex1, ex3, ex4, exF, qfit_i, qfit_l, qfit_r, qfit_n, qfit_b0, qfit_b1, qcat_i, qcat_r, qcat_n, qcat_l, qroom_0, qroom_c, List.map_cons, List.map_nil, List.sum_cons, List.sum_nil, Nat.reduceAdd, Nat.reduceMul, Nat.reduceLT, Nat.reduceLeDiff, Nat.reduceEqDiff, Nat.reduceSub, decide_true, true_and, and_true, and_self, if_true, if_false, Option.toList_some, Option.toList_none, List.cons_append, List.nil_append, qsL, qlong, List.length_cons, List.length_nil, iN_L, exI, iN_add, iN_mul, iN_le, iN_lt, iN_eq, Nat.le_refl, qfN0, qfN1, uX_16, vX_16, uX_19, vX_19, uX_27, vX_27, uX_30, vX_30, uX_39, vX_39, uX_41, vX_41, uX_43, vX_43, uX_46, vX_46, uX_50, vX_50, uX_53, vX_53, show ¬ j ≤ k by omega, gX_41_0, k1, k2, iN_wo', sb, z, iN_or]
      · rw [if_neg z, Nat.or_zero]
        simp (disch := first | assumption | omega) only [e11_0, e11_1, e11_4, e11_5, e11_6, e11_7, e11_10, e11_11, e11_12, e11_13, e11_15, e11_16, e11_18, e11_19, e11_23, e11_24, e11_27, e11_29, e11_30, e11_31, e11_34, e11_36, e11_37, e11_38, e11_39, e11_40, e11_41, e11_43, e11_45, e11_48, e11_49, e11_52, e11_54, e11_56, e11_57, e11_59, e11_62, e11_65, e11_67, m11, ↓reduceIte, qg_0, qg_1, qg_2, qg_3, qg_4, qg_5, qg_6, qg_7, qg_8, qg_9, qg_10, qg_11, qg_12, qg_13, not_true_eq_false, not_false_eq_true, Nat.reduceBEq, Bool.false_eq_true, ex1, ex3, ex4, exF, qfit_i, qfit_l, qfit_r, qfit_n, qfit_b0, qfit_b1, qcat_i, qcat_r, qcat_n, qcat_l, qroom_0, qroom_c, List.map_cons, List.map_nil, List.sum_cons, List.sum_nil, Nat.reduceAdd, Nat.reduceMul, Nat.reduceLT, Nat.reduceLeDiff, Nat.reduceEqDiff, Nat.reduceSub, decide_true, true_and, and_true, and_self, if_true, if_false, Option.toList_some, Option.toList_none, List.cons_append, List.nil_append, qsL, qlong, List.length_cons, List.length_nil, iN_L, exI, iN_add, iN_mul, iN_le, iN_lt, iN_eq, Nat.le_refl, qfN0, qfN1, uX_16, vX_16, uX_19, vX_19, uX_27, vX_27, uX_30, vX_30, uX_39, vX_39, uX_41, vX_41, uX_43, vX_43, uX_46, vX_46, uX_50, vX_50, uX_53, vX_53, show ¬ j ≤ k by omega, gX_41_0, k1, k2, iN_wo', sb, z]
  have r0 : qMC (d + 2) 11 [.ref 41, .ref (sa i), .int (iN j)] h R ↔ qEv (d + 1) 0 qk_11 21 [some (.ref 41), some (.ref (sa i)), some (.int (iN j)), some (.ref (B (dmn bs i - 1))), some (.int (iN (F j))), some (.int (iN (spA F j 0))), some (.int (iN 0)), none] [] h R := by
    rw [show spA F j 0 = 0 from rfl]
    simp (disch := first | assumption | omega) only [e11_0, e11_1, e11_4, e11_5, e11_6, e11_7, e11_10, e11_11, e11_12, e11_13, e11_15, e11_16, e11_18, e11_19, e11_23, e11_24, e11_27, e11_29, e11_30, e11_31, e11_34, e11_36, e11_37, e11_38, e11_39, e11_40, e11_41, e11_43, e11_45, e11_48, e11_49, e11_52, e11_54, e11_56, e11_57, e11_59, e11_62, e11_65, e11_67, m11, ↓reduceIte, qg_0, qg_1, qg_2, qg_3, qg_4, qg_5, qg_6, qg_7, qg_8, qg_9, qg_10, qg_11, qg_12, qg_13, not_true_eq_false, not_false_eq_true, Nat.reduceBEq, Bool.false_eq_true, ex1, ex3, ex4, exF, qfit_i, qfit_l, qfit_r, qfit_n, qfit_b0, qfit_b1, qcat_i, qcat_r, qcat_n, qcat_l, qroom_0, qroom_c, List.map_cons, List.map_nil, List.sum_cons, List.sum_nil, Nat.reduceAdd, Nat.reduceMul, Nat.reduceLT, Nat.reduceLeDiff, Nat.reduceEqDiff, Nat.reduceSub, decide_true, true_and, and_true, and_self, if_true, if_false, Option.toList_some, Option.toList_none, List.cons_append, List.nil_append, qsL, qlong, List.length_cons, List.length_nil, iN_L, exI, iN_add, iN_mul, iN_le, iN_lt, iN_eq, Nat.le_refl, qfN0, qfN1, uX_16, vX_16, uX_19, vX_19, uX_27, vX_27, uX_30, vX_30, uX_39, vX_39, uX_41, vX_41, uX_43, vX_43, uX_46, vX_46, uX_50, vX_50, uX_53, vX_53, u16, ult, uF, g0, g1, g2, g3, g4, g5, g6, fs, gX_41_0, j1, j2]
  rw [r0]
  exact go j 0 _ (by omega)
set_option maxRecDepth 100000 in
set_option maxHeartbeats 16000000 in
theorem x_meetsAt {i j : Nat} (s : ShX h) (X : BsX h bs sa) (hi' : i < bs.length) (rv : RwX h r) (ho : rowOf bs i r = true) (hsm : smpB bs i = true) (hj : j < r.length) : qMC (d + 3) 9 [.ref 41, .ref (sa i), .int (iN j)] h R ↔ R = (some (.int (bB (mtB (rwF (fct bs i) r) (dmn bs i) j))), h) := by
  have sp : ∀ R, qMC (d + 2) 11 [.ref 41, .ref (sa i), .int (iN j)] h R ↔ R = (some (.int (iN (spA (rwF (fct bs i) r) j j))), h) := fun R => x_sparedAt s X hi' rv ho hj
  obtain ⟨p, q, w, e, B, S, P⟩ := X.at hi'
  obtain ⟨⟨u16, ult, uF⟩, g0, g1, g2, g3, g4, g5, g6⟩ := S.obj
  obtain ⟨r1, r2, r3⟩ := rv
  have hD := P.1
  have fs : ∀ R, qMC (d + 2) 107 [.ref (sa i)] h R ↔ R = (some (.ref (B (dmn bs i - 1))), h) := fun R => x_facetSets S P.1
  have at' : ∀ k, k < r.length → qiald h 42 (iN k) = some (iN (r.getD k 0)) ∧ qiald h (B (dmn bs i - 1)) (iN (r.getD k 0)) = some (iN (rwF (fct bs i) r k)) ∧ rwF (fct bs i) r k < 65536 := by
    intro k hk
    obtain ⟨v1, v2⟩ := r3 k hk
    have hlt := rwF_ok ho hk
    refine ⟨by rw [rX_42 s (by omega), v1], S.ck (K := dmn bs i - 1) (by omega) hlt, (P.f hlt).2⟩
  have pj : pop (rwF (fct bs i) r j) 24 = dmn bs i := of_decide_eq_true (allN_iff.mp hsm _ (rwF_ok ho hj))
  rw [mtB_eq (by omega) (at' j hj).2.2 pj]
  have sl := spA_lt (at' j hj).2.2 j
  obtain ⟨F, eF⟩ : ∃ F, F = rwF (fct bs i) r := ⟨_, rfl⟩
  rw [← eF] at sl at' sp ⊢
  have go : ∀ (w' k : Nat), k + w' = j → (∀ t, t < k → wo (spA F j j) (F t) ≠ 0) → (qEv (d + 2) 3 qk_9 16 [some (.ref 41), some (.ref (sa i)), some (.int (iN j)), some (.ref (B (dmn bs i - 1))), some (.int (iN (spA F j j))), some (.int (iN k))] [] h R ↔ R = (some (.int (bB (allN (fun a => decide (wo (spA F j j) (F a) ≠ 0)) j))), h)) := by
    intro w'
    induction w' with
    | zero =>
      intro k hk hn
      rw [allN_iff.mpr (fun t ht => decide_eq_true (hn t (by omega))), bN_t, e9_16]
      simp (disch := first | assumption | omega) only [e9_0, e9_1, e9_4, e9_5, e9_6, e9_7, e9_8, e9_11, e9_13, e9_14, e9_18, e9_19, e9_22, e9_24, e9_25, e9_26, e9_29, e9_31, e9_32, e9_33, e9_34, e9_35, e9_36, e9_39, e9_40, e9_41, e9_44, e9_47, e9_48, m9, ↓reduceIte, qg_0, qg_1, qg_2, qg_3, qg_4, qg_5, qg_6, qg_7, qg_8, qg_9, qg_10, qg_11, qg_12, qg_13, not_true_eq_false, not_false_eq_true, Nat.reduceBEq, Bool.false_eq_true, ex1, ex3, ex4, exF, qfit_i, qfit_l, qfit_r, qfit_n, qfit_b0, qfit_b1, qcat_i, qcat_r, qcat_n, qcat_l, qroom_0, qroom_c, List.map_cons, List.map_nil, List.sum_cons, List.sum_nil, Nat.reduceAdd, Nat.reduceMul, Nat.reduceLT, Nat.reduceLeDiff, Nat.reduceEqDiff, Nat.reduceSub, decide_true, true_and, and_true, and_self, if_true, if_false, Option.toList_some, Option.toList_none, List.cons_append, List.nil_append, qsL, qlong, List.length_cons, List.length_nil, iN_L, exI, iN_add, iN_mul, iN_le, iN_lt, iN_eq, Nat.le_refl, qfN0, qfN1, uX_16, vX_16, uX_19, vX_19, uX_27, vX_27, uX_30, vX_30, uX_39, vX_39, uX_41, vX_41, uX_43, vX_43, uX_46, vX_46, uX_50, vX_50, uX_53, vX_53, show j ≤ k by omega]
    | succ w' ih =>
      intro k hk hn
      obtain ⟨k1, k2, k3⟩ := at' k (by omega)
      have wl := wo_le (spA F j j) (F k)
      by_cases z : wo (spA F j j) (F k) = 0
      · rw [all_f (show k < j by omega) (decide_eq_false (fun y => y z)), bN_f, e9_16]
        simp (disch := first | assumption | omega) only [e9_0, e9_1, e9_4, e9_5, e9_6, e9_7, e9_8, e9_11, e9_13, e9_14, e9_18, e9_19, e9_22, e9_24, e9_25, e9_26, e9_29, e9_31, e9_32, e9_33, e9_34, e9_35, e9_36, e9_39, e9_40, e9_41, e9_44, e9_47, e9_48, m9, ↓reduceIte, qg_0, qg_1, qg_2, qg_3, qg_4, qg_5, qg_6, qg_7, qg_8, qg_9, qg_10, qg_11, qg_12, qg_13, not_true_eq_false, not_false_eq_true, Nat.reduceBEq, Bool.false_eq_true, ex1, ex3, ex4, exF, qfit_i, qfit_l, qfit_r, qfit_n, qfit_b0, qfit_b1, qcat_i, qcat_r, qcat_n, qcat_l, qroom_0, qroom_c, List.map_cons, List.map_nil, List.sum_cons, List.sum_nil, Nat.reduceAdd, Nat.reduceMul, Nat.reduceLT, Nat.reduceLeDiff, Nat.reduceEqDiff, Nat.reduceSub, decide_true, true_and, and_true, and_self, if_true, if_false, Option.toList_some, Option.toList_none, List.cons_append, List.nil_append, qsL, qlong, List.length_cons, List.length_nil, iN_L, exI, iN_add, iN_mul, iN_le, iN_lt, iN_eq, Nat.le_refl, qfN0, qfN1, uX_16, vX_16, uX_19, vX_19, uX_27, vX_27, uX_30, vX_30, uX_39, vX_39, uX_41, vX_41, uX_43, vX_43, uX_46, vX_46, uX_50, vX_50, uX_53, vX_53, show ¬ j ≤ k by omega, gX_41_0, k1, k2, iN_wo', z]
      · rw [← ih (k + 1) (by omega) (fun t ht => by
          rcases Nat.lt_or_ge t k with y | y
          · exact hn t y
          · rw [show t = k by omega]; exact z), e9_16]
        simp (disch := first | assumption | omega) only [e9_0, e9_1, e9_4, e9_5, e9_6, e9_7, e9_8, e9_11, e9_13, e9_14, e9_18, e9_19, e9_22, e9_24, e9_25, e9_26, e9_29, e9_31, e9_32, e9_33, e9_34, e9_35, e9_36, e9_39, e9_40, e9_41, e9_44, e9_47, e9_48, m9, ↓reduceIte, qg_0, qg_1, qg_2, qg_3, qg_4, qg_5, qg_6, qg_7, qg_8, qg_9, qg_10, qg_11, qg_12, qg_13, not_true_eq_false, not_false_eq_true, Nat.reduceBEq, Bool.false_eq_true, ex1, ex3, ex4, exF, qfit_i, qfit_l, qfit_r, qfit_n, qfit_b0, qfit_b1, qcat_i, qcat_r, qcat_n, qcat_l, qroom_0, qroom_c, List.map_cons, List.map_nil, List.sum_cons, List.sum_nil, Nat.reduceAdd, Nat.reduceMul, Nat.reduceLT, Nat.reduceLeDiff, Nat.reduceEqDiff, Nat.reduceSub, decide_true, true_and, and_true, and_self, if_true, if_false, Option.toList_some, Option.toList_none, List.cons_append, List.nil_append, qsL, qlong, List.length_cons, List.length_nil, iN_L, exI, iN_add, iN_mul, iN_le, iN_lt, iN_eq, Nat.le_refl, qfN0, qfN1, uX_16, vX_16, uX_19, vX_19, uX_27, vX_27, uX_30, vX_30, uX_39, vX_39, uX_41, vX_41, uX_43, vX_43, uX_46, vX_46, uX_50, vX_50, uX_53, vX_53, show ¬ j ≤ k by omega, gX_41_0, k1, k2, iN_wo', z]
  rw [← go j 0 (by omega) (fun t ht => absurd ht (Nat.not_lt_zero t))]
  simp (disch := first | assumption | omega) only [e9_0, e9_1, e9_4, e9_5, e9_6, e9_7, e9_8, e9_11, e9_13, e9_14, e9_18, e9_19, e9_22, e9_24, e9_25, e9_26, e9_29, e9_31, e9_32, e9_33, e9_34, e9_35, e9_36, e9_39, e9_40, e9_41, e9_44, e9_47, e9_48, m9, ↓reduceIte, qg_0, qg_1, qg_2, qg_3, qg_4, qg_5, qg_6, qg_7, qg_8, qg_9, qg_10, qg_11, qg_12, qg_13, not_true_eq_false, not_false_eq_true, Nat.reduceBEq, Bool.false_eq_true, ex1, ex3, ex4, exF, qfit_i, qfit_l, qfit_r, qfit_n, qfit_b0, qfit_b1, qcat_i, qcat_r, qcat_n, qcat_l, qroom_0, qroom_c, List.map_cons, List.map_nil, List.sum_cons, List.sum_nil, Nat.reduceAdd, Nat.reduceMul, Nat.reduceLT, Nat.reduceLeDiff, Nat.reduceEqDiff, Nat.reduceSub, decide_true, true_and, and_true, and_self, if_true, if_false, Option.toList_some, Option.toList_none, List.cons_append, List.nil_append, qsL, qlong, List.length_cons, List.length_nil, iN_L, exI, iN_add, iN_mul, iN_le, iN_lt, iN_eq, Nat.le_refl, qfN0, qfN1, uX_16, vX_16, uX_19, vX_19, uX_27, vX_27, uX_30, vX_30, uX_39, vX_39, uX_41, vX_41, uX_43, vX_43, uX_46, vX_46, uX_50, vX_50, uX_53, vX_53, u16, ult, uF, g0, g1, g2, g3, g4, g5, g6, fs, sp]
set_option maxRecDepth 100000 in
set_option maxHeartbeats 16000000 in
theorem x_meets {x v : Int32} (s : ShX h) (X : BsX h bs sa) (rv : RwX h r) (hv : mtsR bs r x v) : qMC (d + 5) 157 [.ref 16, .int x] h R ↔ R = (some (.int v), h) := by
  rcases hv with ⟨hx, rfl⟩ | ⟨i, ⟨hi', rfl⟩, ho, hv⟩
  · by_cases hb : isB bs x
    · obtain ⟨i, hi', rfl⟩ := id hb
      have b : ∀ R, qMC (d + 4) 179 [.ref 16, .int (iN i)] h R ↔ R = (some (.ref (sa i)), h) := fun R => x_bodyAt1 s X hi'
      have io : ∀ R, qMC (d + 4) 7 [.ref 41, .ref (sa i)] h R ↔ R = (some (.int (bB (rowOf bs i r))), h) := fun R => x_isOf s X hi' rv
      have : rowOf bs i r = false := by
        cases e : rowOf bs i r with
        | false => rfl
        | true => exact absurd ⟨i, ⟨hi', rfl⟩, e⟩ hx
      rw [this, bN_f] at io
      simp (disch := first | assumption | omega) only [e157_0, e157_1, e157_2, e157_5, e157_6, e157_7, e157_7N, e157_10, e157_11, e157_14, e157_15, e157_18, e157_21, e157_24, e157_25, e157_26, e157_29, e157_32, e157_33, e157_36, e157_37, e157_40, e157_43, e157_46, m157, ↓reduceIte, qg_0, qg_1, qg_2, qg_3, qg_4, qg_5, qg_6, qg_7, qg_8, qg_9, qg_10, qg_11, qg_12, qg_13, not_true_eq_false, not_false_eq_true, Nat.reduceBEq, Bool.false_eq_true, ex1, ex3, ex4, exF, qfit_i, qfit_l, qfit_r, qfit_n, qfit_b0, qfit_b1, qcat_i, qcat_r, qcat_n, qcat_l, qroom_0, qroom_c, List.map_cons, List.map_nil, List.sum_cons, List.sum_nil, Nat.reduceAdd, Nat.reduceMul, Nat.reduceLT, Nat.reduceLeDiff, Nat.reduceEqDiff, Nat.reduceSub, decide_true, true_and, and_true, and_self, if_true, if_false, Option.toList_some, Option.toList_none, List.cons_append, List.nil_append, qsL, qlong, List.length_cons, List.length_nil, iN_L, exI, iN_add, iN_mul, iN_le, iN_lt, iN_eq, Nat.le_refl, qfN0, qfN1, uX_16, vX_16, uX_19, vX_19, uX_27, vX_27, uX_30, vX_30, uX_39, vX_39, uX_41, vX_41, uX_43, vX_43, uX_46, vX_46, uX_50, vX_50, uX_53, vX_53, b, gX_16_8, io]
    · have b : ∀ R, qMC (d + 4) 179 [.ref 16, .int x] h R ↔ R = (some .null, h) := fun R => x_bodyAt0 s X hb
      simp (disch := first | assumption | omega) only [e157_0, e157_1, e157_2, e157_5, e157_6, e157_7, e157_7N, e157_10, e157_11, e157_14, e157_15, e157_18, e157_21, e157_24, e157_25, e157_26, e157_29, e157_32, e157_33, e157_36, e157_37, e157_40, e157_43, e157_46, m157, ↓reduceIte, qg_0, qg_1, qg_2, qg_3, qg_4, qg_5, qg_6, qg_7, qg_8, qg_9, qg_10, qg_11, qg_12, qg_13, not_true_eq_false, not_false_eq_true, Nat.reduceBEq, Bool.false_eq_true, ex1, ex3, ex4, exF, qfit_i, qfit_l, qfit_r, qfit_n, qfit_b0, qfit_b1, qcat_i, qcat_r, qcat_n, qcat_l, qroom_0, qroom_c, List.map_cons, List.map_nil, List.sum_cons, List.sum_nil, Nat.reduceAdd, Nat.reduceMul, Nat.reduceLT, Nat.reduceLeDiff, Nat.reduceEqDiff, Nat.reduceSub, decide_true, true_and, and_true, and_self, if_true, if_false, Option.toList_some, Option.toList_none, List.cons_append, List.nil_append, qsL, qlong, List.length_cons, List.length_nil, iN_L, exI, iN_add, iN_mul, iN_le, iN_lt, iN_eq, Nat.le_refl, qfN0, qfN1, uX_16, vX_16, uX_19, vX_19, uX_27, vX_27, uX_30, vX_30, uX_39, vX_39, uX_41, vX_41, uX_43, vX_43, uX_46, vX_46, uX_50, vX_50, uX_53, vX_53, b]
  · have b : ∀ R, qMC (d + 4) 179 [.ref 16, .int (iN i)] h R ↔ R = (some (.ref (sa i)), h) := fun R => x_bodyAt1 s X hi'
    have io : ∀ R, qMC (d + 4) 7 [.ref 41, .ref (sa i)] h R ↔ R = (some (.int (bB (rowOf bs i r))), h) := fun R => x_isOf s X hi' rv
    rw [ho, bN_t] at io
    obtain ⟨p, q, w, e, B, S, P⟩ := X.at hi'
    obtain ⟨⟨u16, ult, uF⟩, g0, g1, g2, g3, g4, g5, g6⟩ := S.obj
    have sf : ∀ R, qMC (d + 4) 109 [.ref (sa i)] h R ↔ R = (some (.int (bB (smpB bs i))), h) := fun R => x_simple S P
    rcases hv with ⟨h1, rfl⟩ | ⟨h1, hv⟩
    · rw [h1, bN_f] at sf
      simp (disch := first | assumption | omega) only [e157_0, e157_1, e157_2, e157_5, e157_6, e157_7, e157_7N, e157_10, e157_11, e157_14, e157_15, e157_18, e157_21, e157_24, e157_25, e157_26, e157_29, e157_32, e157_33, e157_36, e157_37, e157_40, e157_43, e157_46, m157, ↓reduceIte, qg_0, qg_1, qg_2, qg_3, qg_4, qg_5, qg_6, qg_7, qg_8, qg_9, qg_10, qg_11, qg_12, qg_13, not_true_eq_false, not_false_eq_true, Nat.reduceBEq, Bool.false_eq_true, ex1, ex3, ex4, exF, qfit_i, qfit_l, qfit_r, qfit_n, qfit_b0, qfit_b1, qcat_i, qcat_r, qcat_n, qcat_l, qroom_0, qroom_c, List.map_cons, List.map_nil, List.sum_cons, List.sum_nil, Nat.reduceAdd, Nat.reduceMul, Nat.reduceLT, Nat.reduceLeDiff, Nat.reduceEqDiff, Nat.reduceSub, decide_true, true_and, and_true, and_self, if_true, if_false, Option.toList_some, Option.toList_none, List.cons_append, List.nil_append, qsL, qlong, List.length_cons, List.length_nil, iN_L, exI, iN_add, iN_mul, iN_le, iN_lt, iN_eq, Nat.le_refl, qfN0, qfN1, uX_16, vX_16, uX_19, vX_19, uX_27, vX_27, uX_30, vX_30, uX_39, vX_39, uX_41, vX_41, uX_43, vX_43, uX_46, vX_46, uX_50, vX_50, uX_53, vX_53, b, gX_16_8, io, iN10, u16, ult, uF, g0, g1, g2, g3, g4, g5, g6, sf]
    · rw [h1, bN_t] at sf
      obtain ⟨r1, r2, r3⟩ := id rv
      have go : ∀ (w' j : Nat), j + w' = r.length → 1 ≤ j → (∀ t, 1 ≤ t → t < j → mtB (rwF (fct bs i) r) (dmn bs i) t = true) → ∀ R, (qEv (d + 3) 0 qk_8 2 [some (.ref 41), some (.ref (sa i)), some (.int (iN j))] [] h R ↔ R = (some (.int v), h)) := by
        intro w'
        induction w' with
        | zero =>
          intro j hj h1j hn R
          rcases hv with ⟨z, rfl⟩ | ⟨k, ⟨k1, k2, k3, k4⟩, rfl⟩
          · rw [e8_2]
            simp (disch := first | assumption | omega) only [e8_0, e8_1, e8_3, e8_4, e8_7, e8_10, e8_11, e8_12, e8_13, e8_16, e8_19, e8_20, e8_21, e8_24, e8_27, e8_28, m8, ↓reduceIte, qg_0, qg_1, qg_2, qg_3, qg_4, qg_5, qg_6, qg_7, qg_8, qg_9, qg_10, qg_11, qg_12, qg_13, not_true_eq_false, not_false_eq_true, Nat.reduceBEq, Bool.false_eq_true, ex1, ex3, ex4, exF, qfit_i, qfit_l, qfit_r, qfit_n, qfit_b0, qfit_b1, qcat_i, qcat_r, qcat_n, qcat_l, qroom_0, qroom_c, List.map_cons, List.map_nil, List.sum_cons, List.sum_nil, Nat.reduceAdd, Nat.reduceMul, Nat.reduceLT, Nat.reduceLeDiff, Nat.reduceEqDiff, Nat.reduceSub, decide_true, true_and, and_true, and_self, if_true, if_false, Option.toList_some, Option.toList_none, List.cons_append, List.nil_append, qsL, qlong, List.length_cons, List.length_nil, iN_L, exI, iN_add, iN_mul, iN_le, iN_lt, iN_eq, Nat.le_refl, qfN0, qfN1, uX_16, vX_16, uX_19, vX_19, uX_27, vX_27, uX_30, vX_30, uX_39, vX_39, uX_41, vX_41, uX_43, vX_43, uX_46, vX_46, uX_50, vX_50, uX_53, vX_53, gX_41_1, r2, show r.length ≤ j by omega]
          · rw [hn k k1 (by omega)] at k3; cases k3
        | succ w' ih =>
          intro j hj h1j hn R
          have hj' : j < r.length := by omega
          have ma : ∀ R, qMC (d + 3) 9 [.ref 41, .ref (sa i), .int (iN j)] h R ↔ R = (some (.int (bB (mtB (rwF (fct bs i) r) (dmn bs i) j))), h) := fun R => x_meetsAt s X hi' rv ho h1 hj'
          cases z : mtB (rwF (fct bs i) r) (dmn bs i) j with
          | true =>
            rw [z, bN_t] at ma
            rw [← ih (j + 1) (by omega) (by omega) (fun t t1 t2 => by
              rcases Nat.lt_or_ge t j with y | y
              · exact hn t t1 y
              · rw [show t = j by omega]; exact z), e8_2]
            simp (disch := first | assumption | omega) only [e8_0, e8_1, e8_3, e8_4, e8_7, e8_10, e8_11, e8_12, e8_13, e8_16, e8_19, e8_20, e8_21, e8_24, e8_27, e8_28, m8, ↓reduceIte, qg_0, qg_1, qg_2, qg_3, qg_4, qg_5, qg_6, qg_7, qg_8, qg_9, qg_10, qg_11, qg_12, qg_13, not_true_eq_false, not_false_eq_true, Nat.reduceBEq, Bool.false_eq_true, ex1, ex3, ex4, exF, qfit_i, qfit_l, qfit_r, qfit_n, qfit_b0, qfit_b1, qcat_i, qcat_r, qcat_n, qcat_l, qroom_0, qroom_c, List.map_cons, List.map_nil, List.sum_cons, List.sum_nil, Nat.reduceAdd, Nat.reduceMul, Nat.reduceLT, Nat.reduceLeDiff, Nat.reduceEqDiff, Nat.reduceSub, decide_true, true_and, and_true, and_self, if_true, if_false, Option.toList_some, Option.toList_none, List.cons_append, List.nil_append, qsL, qlong, List.length_cons, List.length_nil, iN_L, exI, iN_add, iN_mul, iN_le, iN_lt, iN_eq, Nat.le_refl, qfN0, qfN1, uX_16, vX_16, uX_19, vX_19, uX_27, vX_27, uX_30, vX_30, uX_39, vX_39, uX_41, vX_41, uX_43, vX_43, uX_46, vX_46, uX_50, vX_50, uX_53, vX_53, gX_41_1, r2, show ¬ r.length ≤ j by omega, ma, iN10]
          | false =>
            rw [z, bN_f] at ma
            rcases hv with ⟨y, rfl⟩ | ⟨k, ⟨k1, k2, k3, k4⟩, rfl⟩
            · rw [y j h1j hj'] at z; cases z
            · have ek : k = j := by
                rcases Nat.lt_trichotomy k j with y | y | y
                · rw [hn k k1 y] at k3; cases k3
                · exact y
                · rw [k4 j h1j y] at z; cases z
              rw [ek, e8_2]
              simp (disch := first | assumption | omega) only [e8_0, e8_1, e8_3, e8_4, e8_7, e8_10, e8_11, e8_12, e8_13, e8_16, e8_19, e8_20, e8_21, e8_24, e8_27, e8_28, m8, ↓reduceIte, qg_0, qg_1, qg_2, qg_3, qg_4, qg_5, qg_6, qg_7, qg_8, qg_9, qg_10, qg_11, qg_12, qg_13, not_true_eq_false, not_false_eq_true, Nat.reduceBEq, Bool.false_eq_true, ex1, ex3, ex4, exF, qfit_i, qfit_l, qfit_r, qfit_n, qfit_b0, qfit_b1, qcat_i, qcat_r, qcat_n, qcat_l, qroom_0, qroom_c, List.map_cons, List.map_nil, List.sum_cons, List.sum_nil, Nat.reduceAdd, Nat.reduceMul, Nat.reduceLT, Nat.reduceLeDiff, Nat.reduceEqDiff, Nat.reduceSub, decide_true, true_and, and_true, and_self, if_true, if_false, Option.toList_some, Option.toList_none, List.cons_append, List.nil_append, qsL, qlong, List.length_cons, List.length_nil, iN_L, exI, iN_add, iN_mul, iN_le, iN_lt, iN_eq, Nat.le_refl, qfN0, qfN1, uX_16, vX_16, uX_19, vX_19, uX_27, vX_27, uX_30, vX_30, uX_39, vX_39, uX_41, vX_41, uX_43, vX_43, uX_46, vX_46, uX_50, vX_50, uX_53, vX_53, gX_41_1, r2, show ¬ r.length ≤ j by omega, ma]
      have fu : ∀ R, qMC (d + 4) 8 [.ref 41, .ref (sa i)] h R ↔ R = (some (.int v), h) := by
        intro R
        by_cases l0 : 1 ≤ r.length
        · rw [← go (r.length - 1) 1 (by omega) (by omega) (fun t t1 t2 => by omega) R]
          simp (disch := first | assumption | omega) only [e8_0, e8_1, e8_3, e8_4, e8_7, e8_10, e8_11, e8_12, e8_13, e8_16, e8_19, e8_20, e8_21, e8_24, e8_27, e8_28, m8, ↓reduceIte, qg_0, qg_1, qg_2, qg_3, qg_4, qg_5, qg_6, qg_7, qg_8, qg_9, qg_10, qg_11, qg_12, qg_13, not_true_eq_false, not_false_eq_true, Nat.reduceBEq, Bool.false_eq_true, ex1, ex3, ex4, exF, qfit_i, qfit_l, qfit_r, qfit_n, qfit_b0, qfit_b1, qcat_i, qcat_r, qcat_n, qcat_l, qroom_0, qroom_c, List.map_cons, List.map_nil, List.sum_cons, List.sum_nil, Nat.reduceAdd, Nat.reduceMul, Nat.reduceLT, Nat.reduceLeDiff, Nat.reduceEqDiff, Nat.reduceSub, decide_true, true_and, and_true, and_self, if_true, if_false, Option.toList_some, Option.toList_none, List.cons_append, List.nil_append, qsL, qlong, List.length_cons, List.length_nil, iN_L, exI, iN_add, iN_mul, iN_le, iN_lt, iN_eq, Nat.le_refl, qfN0, qfN1, uX_16, vX_16, uX_19, vX_19, uX_27, vX_27, uX_30, vX_30, uX_39, vX_39, uX_41, vX_41, uX_43, vX_43, uX_46, vX_46, uX_50, vX_50, uX_53, vX_53]
        · have ev : v = -1 := by
            rcases hv with ⟨y, rfl⟩ | ⟨k, ⟨k1, k2, k3, k4⟩, rfl⟩
            · rfl
            · omega
          rw [ev]
          simp (disch := first | assumption | omega) only [e8_0, e8_1, e8_2, e8_3, e8_4, e8_7, e8_10, e8_11, e8_12, e8_13, e8_16, e8_19, e8_20, e8_21, e8_24, e8_27, e8_28, m8, ↓reduceIte, qg_0, qg_1, qg_2, qg_3, qg_4, qg_5, qg_6, qg_7, qg_8, qg_9, qg_10, qg_11, qg_12, qg_13, not_true_eq_false, not_false_eq_true, Nat.reduceBEq, Bool.false_eq_true, ex1, ex3, ex4, exF, qfit_i, qfit_l, qfit_r, qfit_n, qfit_b0, qfit_b1, qcat_i, qcat_r, qcat_n, qcat_l, qroom_0, qroom_c, List.map_cons, List.map_nil, List.sum_cons, List.sum_nil, Nat.reduceAdd, Nat.reduceMul, Nat.reduceLT, Nat.reduceLeDiff, Nat.reduceEqDiff, Nat.reduceSub, decide_true, true_and, and_true, and_self, if_true, if_false, Option.toList_some, Option.toList_none, List.cons_append, List.nil_append, qsL, qlong, List.length_cons, List.length_nil, iN_L, exI, iN_add, iN_mul, iN_le, iN_lt, iN_eq, Nat.le_refl, qfN0, qfN1, uX_16, vX_16, uX_19, vX_19, uX_27, vX_27, uX_30, vX_30, uX_39, vX_39, uX_41, vX_41, uX_43, vX_43, uX_46, vX_46, uX_50, vX_50, uX_53, vX_53, gX_41_1, r2, show r.length ≤ 1 by omega]
      simp (disch := first | assumption | omega) only [e157_0, e157_1, e157_2, e157_5, e157_6, e157_7, e157_7N, e157_10, e157_11, e157_14, e157_15, e157_18, e157_21, e157_24, e157_25, e157_26, e157_29, e157_32, e157_33, e157_36, e157_37, e157_40, e157_43, e157_46, m157, ↓reduceIte, qg_0, qg_1, qg_2, qg_3, qg_4, qg_5, qg_6, qg_7, qg_8, qg_9, qg_10, qg_11, qg_12, qg_13, not_true_eq_false, not_false_eq_true, Nat.reduceBEq, Bool.false_eq_true, ex1, ex3, ex4, exF, qfit_i, qfit_l, qfit_r, qfit_n, qfit_b0, qfit_b1, qcat_i, qcat_r, qcat_n, qcat_l, qroom_0, qroom_c, List.map_cons, List.map_nil, List.sum_cons, List.sum_nil, Nat.reduceAdd, Nat.reduceMul, Nat.reduceLT, Nat.reduceLeDiff, Nat.reduceEqDiff, Nat.reduceSub, decide_true, true_and, and_true, and_self, if_true, if_false, Option.toList_some, Option.toList_none, List.cons_append, List.nil_append, qsL, qlong, List.length_cons, List.length_nil, iN_L, exI, iN_add, iN_mul, iN_le, iN_lt, iN_eq, Nat.le_refl, qfN0, qfN1, uX_16, vX_16, uX_19, vX_19, uX_27, vX_27, uX_30, vX_30, uX_39, vX_39, uX_41, vX_41, uX_43, vX_43, uX_46, vX_46, uX_50, vX_50, uX_53, vX_53, b, gX_16_8, io, iN10, u16, ult, uF, g0, g1, g2, g3, g4, g5, g6, sf, fu]
theorem cntN_ct {p : Nat → Bool} {n : Nat} : ∀ {m : Nat}, n ≤ m → (∀ k, n ≤ k → p k = false) → cntN p m = cntN p n
  | 0, h1, _ => by rw [show n = 0 by omega]
  | m + 1, h1, h2 => by
    rcases Nat.lt_or_ge m n with z | z
    · rw [show n = m + 1 by omega]
    · rw [cntN, h2 m z, cntN_ct z h2]; rfl
/-- what is new at j, if no facet of THE ROW lies in another -/
theorem spA_new {X : Nat → Nat} {j n : Nat} (hj : X j < 65536) (hn : X j < 2 ^ n) (n16 : n ≤ 16) (anti : ∀ k, k < j → wo (X j) (X k) ≠ 0) : pop (spA X j j) 24 = cntN (nwB X j) n := by
  have key : ∀ c, nwB X j c = (spA X j j).testBit c := by
    intro c
    rw [Bool.eq_iff_iff, spA_bit]
    unfold nwB
    rw [Bool.and_eq_true, anyN_iff]
    constructor
    · rintro ⟨h1, k, hk, h2⟩
      have h3 : wo (wo (X j) (2 ^ c)) (X k) = 0 := of_decide_eq_true h2
      have only : ∀ e, (wo (X j) (X k)).testBit e = true → e = c := by
        intro e he
        apply Classical.byContradiction
        intro z
        rw [wo_bit, Bool.and_eq_true] at he
        have := wo_bit (wo (X j) (2 ^ c)) (X k) e
        rw [h3, Nat.zero_testBit, wo_bit, he.1, Nat.testBit_two_pow, decide_eq_false (fun y => z y.symm), he.2] at this
        cases this
      obtain ⟨e, e1, e2⟩ := wo_some.mp (anti k hk)
      have eb : (wo (X j) (X k)).testBit e = true := by rw [wo_bit, e1, e2]; rfl
      have ec := only e eb
      have wc : wo (X j) (X k) = 2 ^ c := by
        apply Nat.eq_of_testBit_eq
        intro b
        rw [Nat.testBit_two_pow]
        by_cases q : c = b
        · rw [decide_eq_true q, ← q, ← ec]; exact eb
        · rw [decide_eq_false q]
          cases y : (wo (X j) (X k)).testBit b with
          | false => rfl
          | true => exact absurd (only b y).symm q
      have c16 := bit16 hj h1
      exact ⟨k, hk, by rw [wc]; exact pop_one (by omega), by rw [wc]; exact Nat.testBit_two_pow_self⟩
    · rintro ⟨k, hk, h1, h2⟩
      have h3 := h2
      rw [wo_bit, Bool.and_eq_true] at h3
      refine ⟨h3.1, k, hk, decide_eq_true ?_⟩
      apply Classical.byContradiction
      intro z
      obtain ⟨e, e1, e2⟩ := wo_some.mp z
      rw [wo_bit, Bool.and_eq_true, Nat.testBit_two_pow] at e1
      have : c = e := pop1_un h1 (Nat.lt_of_le_of_lt (wo_le _ _) hj) h2 (by rw [wo_bit, e1.1, e2]; rfl)
      rw [decide_eq_true this] at e1
      cases e1.2
  show cntN (fun k => (spA X j j).testBit k) 24 = _
  rw [cntN_ct (n := n) (by omega) (fun k hk => by
    show (spA X j j).testBit k = false
    rw [← key]
    unfold nwB
    rw [Nat.testBit_lt_two_pow (Nat.lt_of_lt_of_le hn (Nat.pow_le_pow_right (by decide) hk))]; rfl)]
  exact congrArg (fun f => cntN f n) (funext fun c => (key c).symm)
set_option maxRecDepth 100000 in
set_option maxHeartbeats 16000000 in
theorem x_fresh {x y v : Int32} (s : ShX h) (X : BsX h bs sa) (rv : RwX h r) (anti : ∀ i, i < bs.length → rowOf bs i r = true → ∀ j k, k < j → j < r.length → wo (rwF (fct bs i) r j) (rwF (fct bs i) r k) ≠ 0) (hv : frsR bs r x y v) : qMC (d + 4) 158 [.ref 16, .int x, .int y] h R ↔ R = (some (.int v), h) := by
  rcases hv with ⟨hx, rfl⟩ | ⟨i, ⟨hi', rfl⟩, ho, hv⟩
  · by_cases hb : isB bs x
    · obtain ⟨i, hi', rfl⟩ := id hb
      have b : ∀ R, qMC (d + 3) 179 [.ref 16, .int (iN i)] h R ↔ R = (some (.ref (sa i)), h) := fun R => x_bodyAt1 s X hi'
      have io : ∀ R, qMC (d + 3) 7 [.ref 41, .ref (sa i)] h R ↔ R = (some (.int (bB (rowOf bs i r))), h) := fun R => x_isOf s X hi' rv
      have : rowOf bs i r = false := by
        cases e : rowOf bs i r with
        | false => rfl
        | true => exact absurd ⟨i, ⟨hi', rfl⟩, e⟩ hx
      rw [this, bN_f] at io
      simp (disch := first | assumption | omega) only [e158_0, e158_1, e158_2, e158_5, e158_6, e158_7, e158_7N, e158_10, e158_11, e158_14, e158_15, e158_18, e158_21, e158_24, e158_25, e158_26, e158_29, e158_30, e158_31, e158_34, e158_37, e158_38, e158_39, e158_42, e158_45, e158_46, e158_49, e158_50, e158_51, e158_54, e158_57, e158_60, m158, ↓reduceIte, qg_0, qg_1, qg_2, qg_3, qg_4, qg_5, qg_6, qg_7, qg_8, qg_9, qg_10, qg_11, qg_12, qg_13, not_true_eq_false, not_false_eq_true, Nat.reduceBEq, Bool.false_eq_true, ex1, ex3, ex4, exF, qfit_i, qfit_l, qfit_r, qfit_n, qfit_b0, qfit_b1, qcat_i, qcat_r, qcat_n, qcat_l, qroom_0, qroom_c, List.map_cons, List.map_nil, List.sum_cons, List.sum_nil, Nat.reduceAdd, Nat.reduceMul, Nat.reduceLT, Nat.reduceLeDiff, Nat.reduceEqDiff, Nat.reduceSub, decide_true, true_and, and_true, and_self, if_true, if_false, Option.toList_some, Option.toList_none, List.cons_append, List.nil_append, qsL, qlong, List.length_cons, List.length_nil, iN_L, exI, iN_add, iN_mul, iN_le, iN_lt, iN_eq, Nat.le_refl, qfN0, qfN1, uX_16, vX_16, uX_19, vX_19, uX_27, vX_27, uX_30, vX_30, uX_39, vX_39, uX_41, vX_41, uX_43, vX_43, uX_46, vX_46, uX_50, vX_50, uX_53, vX_53, b, gX_16_8, io]
    · have b : ∀ R, qMC (d + 3) 179 [.ref 16, .int x] h R ↔ R = (some .null, h) := fun R => x_bodyAt0 s X hb
      simp (disch := first | assumption | omega) only [e158_0, e158_1, e158_2, e158_5, e158_6, e158_7, e158_7N, e158_10, e158_11, e158_14, e158_15, e158_18, e158_21, e158_24, e158_25, e158_26, e158_29, e158_30, e158_31, e158_34, e158_37, e158_38, e158_39, e158_42, e158_45, e158_46, e158_49, e158_50, e158_51, e158_54, e158_57, e158_60, m158, ↓reduceIte, qg_0, qg_1, qg_2, qg_3, qg_4, qg_5, qg_6, qg_7, qg_8, qg_9, qg_10, qg_11, qg_12, qg_13, not_true_eq_false, not_false_eq_true, Nat.reduceBEq, Bool.false_eq_true, ex1, ex3, ex4, exF, qfit_i, qfit_l, qfit_r, qfit_n, qfit_b0, qfit_b1, qcat_i, qcat_r, qcat_n, qcat_l, qroom_0, qroom_c, List.map_cons, List.map_nil, List.sum_cons, List.sum_nil, Nat.reduceAdd, Nat.reduceMul, Nat.reduceLT, Nat.reduceLeDiff, Nat.reduceEqDiff, Nat.reduceSub, decide_true, true_and, and_true, and_self, if_true, if_false, Option.toList_some, Option.toList_none, List.cons_append, List.nil_append, qsL, qlong, List.length_cons, List.length_nil, iN_L, exI, iN_add, iN_mul, iN_le, iN_lt, iN_eq, Nat.le_refl, qfN0, qfN1, uX_16, vX_16, uX_19, vX_19, uX_27, vX_27, uX_30, vX_30, uX_39, vX_39, uX_41, vX_41, uX_43, vX_43, uX_46, vX_46, uX_50, vX_50, uX_53, vX_53, b]
  · have b : ∀ R, qMC (d + 3) 179 [.ref 16, .int (iN i)] h R ↔ R = (some (.ref (sa i)), h) := fun R => x_bodyAt1 s X hi'
    have io : ∀ R, qMC (d + 3) 7 [.ref 41, .ref (sa i)] h R ↔ R = (some (.int (bB (rowOf bs i r))), h) := fun R => x_isOf s X hi' rv
    rw [ho, bN_t] at io
    obtain ⟨p, q, w, e, B, S, P⟩ := X.at hi'
    obtain ⟨⟨u16, ult, uF⟩, g0, g1, g2, g3, g4, g5, g6⟩ := S.obj
    have sf : ∀ R, qMC (d + 3) 109 [.ref (sa i)] h R ↔ R = (some (.int (bB (smpB bs i))), h) := fun R => x_simple S P
    rcases hv with ⟨hy, rfl⟩ | ⟨k, ⟨hk, rfl⟩, hv⟩
    · have hy' : ¬ ∃ e, e < 5 ∧ y = iN e := fun ⟨e, h1, h2⟩ => hy ⟨e, by omega, h2⟩
      rw [lt_cnt (by omega)] at hy'
      by_cases q1 : y < iN 0
      · simp (disch := first | assumption | omega) only [e158_0, e158_1, e158_2, e158_5, e158_6, e158_7, e158_7N, e158_10, e158_11, e158_14, e158_15, e158_18, e158_21, e158_24, e158_25, e158_26, e158_29, e158_30, e158_31, e158_34, e158_37, e158_38, e158_39, e158_42, e158_45, e158_46, e158_49, e158_50, e158_51, e158_54, e158_57, e158_60, m158, ↓reduceIte, qg_0, qg_1, qg_2, qg_3, qg_4, qg_5, qg_6, qg_7, qg_8, qg_9, qg_10, qg_11, qg_12, qg_13, not_true_eq_false, not_false_eq_true, Nat.reduceBEq, Bool.false_eq_true, ex1, ex3, ex4, exF, qfit_i, qfit_l, qfit_r, qfit_n, qfit_b0, qfit_b1, qcat_i, qcat_r, qcat_n, qcat_l, qroom_0, qroom_c, List.map_cons, List.map_nil, List.sum_cons, List.sum_nil, Nat.reduceAdd, Nat.reduceMul, Nat.reduceLT, Nat.reduceLeDiff, Nat.reduceEqDiff, Nat.reduceSub, decide_true, true_and, and_true, and_self, if_true, if_false, Option.toList_some, Option.toList_none, List.cons_append, List.nil_append, qsL, qlong, List.length_cons, List.length_nil, iN_L, exI, iN_add, iN_mul, iN_le, iN_lt, iN_eq, Nat.le_refl, qfN0, qfN1, uX_16, vX_16, uX_19, vX_19, uX_27, vX_27, uX_30, vX_30, uX_39, vX_39, uX_41, vX_41, uX_43, vX_43, uX_46, vX_46, uX_50, vX_50, uX_53, vX_53, b, gX_16_8, io, iN10, q1]
      · have q2 : ¬ y ≤ iN 4 := fun z => hy' ⟨q1, fun w => by
          rw [le_N (by omega)] at z
          rw [leN_x (by omega)] at w
          omega⟩
        simp (disch := first | assumption | omega) only [e158_0, e158_1, e158_2, e158_5, e158_6, e158_7, e158_7N, e158_10, e158_11, e158_14, e158_15, e158_18, e158_21, e158_24, e158_25, e158_26, e158_29, e158_30, e158_31, e158_34, e158_37, e158_38, e158_39, e158_42, e158_45, e158_46, e158_49, e158_50, e158_51, e158_54, e158_57, e158_60, m158, ↓reduceIte, qg_0, qg_1, qg_2, qg_3, qg_4, qg_5, qg_6, qg_7, qg_8, qg_9, qg_10, qg_11, qg_12, qg_13, not_true_eq_false, not_false_eq_true, Nat.reduceBEq, Bool.false_eq_true, ex1, ex3, ex4, exF, qfit_i, qfit_l, qfit_r, qfit_n, qfit_b0, qfit_b1, qcat_i, qcat_r, qcat_n, qcat_l, qroom_0, qroom_c, List.map_cons, List.map_nil, List.sum_cons, List.sum_nil, Nat.reduceAdd, Nat.reduceMul, Nat.reduceLT, Nat.reduceLeDiff, Nat.reduceEqDiff, Nat.reduceSub, decide_true, true_and, and_true, and_self, if_true, if_false, Option.toList_some, Option.toList_none, List.cons_append, List.nil_append, qsL, qlong, List.length_cons, List.length_nil, iN_L, exI, iN_add, iN_mul, iN_le, iN_lt, iN_eq, Nat.le_refl, qfN0, qfN1, uX_16, vX_16, uX_19, vX_19, uX_27, vX_27, uX_30, vX_30, uX_39, vX_39, uX_41, vX_41, uX_43, vX_43, uX_46, vX_46, uX_50, vX_50, uX_53, vX_53, b, gX_16_8, io, iN10, q1, q2]
    · rcases hv with ⟨h1, rfl⟩ | ⟨h1, rfl⟩
      · rw [h1, bN_f] at sf
        simp (disch := first | assumption | omega) only [e158_0, e158_1, e158_2, e158_5, e158_6, e158_7, e158_7N, e158_10, e158_11, e158_14, e158_15, e158_18, e158_21, e158_24, e158_25, e158_26, e158_29, e158_30, e158_31, e158_34, e158_37, e158_38, e158_39, e158_42, e158_45, e158_46, e158_49, e158_50, e158_51, e158_54, e158_57, e158_60, m158, ↓reduceIte, qg_0, qg_1, qg_2, qg_3, qg_4, qg_5, qg_6, qg_7, qg_8, qg_9, qg_10, qg_11, qg_12, qg_13, not_true_eq_false, not_false_eq_true, Nat.reduceBEq, Bool.false_eq_true, ex1, ex3, ex4, exF, qfit_i, qfit_l, qfit_r, qfit_n, qfit_b0, qfit_b1, qcat_i, qcat_r, qcat_n, qcat_l, qroom_0, qroom_c, List.map_cons, List.map_nil, List.sum_cons, List.sum_nil, Nat.reduceAdd, Nat.reduceMul, Nat.reduceLT, Nat.reduceLeDiff, Nat.reduceEqDiff, Nat.reduceSub, decide_true, true_and, and_true, and_self, if_true, if_false, Option.toList_some, Option.toList_none, List.cons_append, List.nil_append, qsL, qlong, List.length_cons, List.length_nil, iN_L, exI, iN_add, iN_mul, iN_le, iN_lt, iN_eq, Nat.le_refl, qfN0, qfN1, uX_16, vX_16, uX_19, vX_19, uX_27, vX_27, uX_30, vX_30, uX_39, vX_39, uX_41, vX_41, uX_43, vX_43, uX_46, vX_46, uX_50, vX_50, uX_53, vX_53, b, gX_16_8, io, iN10, show ¬ k < 0 by omega, hk, u16, ult, uF, g0, g1, g2, g3, g4, g5, g6, sf]
      · rw [h1, bN_t] at sf
        obtain ⟨r1, r2, r3⟩ := id rv
        obtain ⟨W, eW⟩ : ∃ W : Nat → Bool, W = fun j => decide (cntN (nwB (rwF (fct bs i) r) j) (cnr bs i).length = k) := ⟨_, rfl⟩
        rw [← eW]
        have pw : ∀ R, qMC (d + 3) 10 [.ref 41, .ref (sa i), .int (iN k)] h R ↔ R = (some (.int (iN (cntN W r.length))), h) := by
          intro R
          have r0 : qMC (d + 3) 10 [.ref 41, .ref (sa i), .int (iN k)] h R ↔ qEv (d + 2) 0 qk_10 5 [some (.ref 41), some (.ref (sa i)), some (.int (iN k)), some (.int (iN (cntN W 0))), some (.int (iN 0))] [] h R := by
            rw [show cntN W 0 = 0 from rfl]
            simp (disch := first | assumption | omega) only [e10_0, e10_1, e10_2, e10_3, e10_7, e10_8, e10_11, e10_14, e10_15, e10_16, e10_18, e10_21, e10_24, e10_25, e10_28, e10_31, e10_34, e10_37, e10_38, m10, ↓reduceIte, qg_0, qg_1, qg_2, qg_3, qg_4, qg_5, qg_6, qg_7, qg_8, qg_9, qg_10, qg_11, qg_12, qg_13, not_true_eq_false, not_false_eq_true, Nat.reduceBEq, Bool.false_eq_true, ex1, ex3, ex4, exF, qfit_i, qfit_l, qfit_r, qfit_n, qfit_b0, qfit_b1, qcat_i, qcat_r, qcat_n, qcat_l, qroom_0, qroom_c, List.map_cons, List.map_nil, List.sum_cons, List.sum_nil, Nat.reduceAdd, Nat.reduceMul, Nat.reduceLT, Nat.reduceLeDiff, Nat.reduceEqDiff, Nat.reduceSub, decide_true, true_and, and_true, and_self, if_true, if_false, Option.toList_some, Option.toList_none, List.cons_append, List.nil_append, qsL, qlong, List.length_cons, List.length_nil, iN_L, exI, iN_add, iN_mul, iN_le, iN_lt, iN_eq, Nat.le_refl, qfN0, qfN1, uX_16, vX_16, uX_19, vX_19, uX_27, vX_27, uX_30, vX_30, uX_39, vX_39, uX_41, vX_41, uX_43, vX_43, uX_46, vX_46, uX_50, vX_50, uX_53, vX_53]
          rw [r0]
          refine Iff.trans (loop_up (n := r.length) (L := fun t => [some (.ref 41), some (.ref (sa i)), some (.int (iN k)), some (.int (iN (cntN W t))), some (.int (iN t))]) (H := fun _ => h) ?_) ?_
          · intro t ht
            try dsimp only
            have hlt := rwF_ok ho ht
            have f1 : rwF (fct bs i) r t < 65536 := (P.f hlt).2
            have f2 : rwF (fct bs i) r t < 2 ^ (cnr bs i).length := P.2.2.2.2.2.2.2 (dmn bs i - 1) (by have := P.1; omega) _ hlt
            have en := spA_new f1 f2 P.2.1.2 (fun k hk => anti i hi' ho t k hk ht)
            have sp : ∀ R, qMC (d + 2) 11 [.ref 41, .ref (sa i), .int (iN t)] h R ↔ _ := fun R => x_sparedAt s X hi' rv ho ht
            have sl := spA_lt f1 t
            have sb : ∀ R, qMC (d + 2) 308 [.int (iN (spA (rwF (fct bs i) r) t t))] h R ↔ R = (some (.int (iN (pop (spA (rwF (fct bs i) r) t t) 24))), h) := fun R => x_bitCount sl
            rw [en] at sb
            have cl := cntN_le (p := nwB (rwF (fct bs i) r) t) (n := (cnr bs i).length)
            have n16 := P.2.1.2
            have hW : W t = decide (cntN (nwB (rwF (fct bs i) r) t) (cnr bs i).length = k) := by rw [eW]
            rw [e10_5, cntN, hW]
            by_cases z : cntN (nwB (rwF (fct bs i) r) t) (cnr bs i).length = k
            · rw [decide_eq_true z, if_pos rfl]
              simp (disch := first | assumption | omega) only [e10_0, e10_1, e10_2, e10_3, e10_7, e10_8, e10_11, e10_14, e10_15, e10_16, e10_18, e10_21, e10_24, e10_25, e10_28, e10_31, e10_34, e10_37, e10_38, m10, ↓reduceIte, qg_0, qg_1, qg_2, qg_3, qg_4, qg_5, qg_6, qg_7, qg_8, qg_9, qg_10, qg_11, qg_12, qg_13, not_true_eq_false, not_false_eq_true, Nat.reduceBEq, Bool.false_eq_true, ex1, ex3, ex4, exF, qfit_i, qfit_l, qfit_r, qfit_n, qfit_b0, qfit_b1, qcat_i, qcat_r, qcat_n, qcat_l, qroom_0, qroom_c, List.map_cons, List.map_nil, List.sum_cons, List.sum_nil, Nat.reduceAdd, Nat.reduceMul, Nat.reduceLT, Nat.reduceLeDiff, Nat.reduceEqDiff, Nat.reduceSub, decide_true, true_and, and_true, and_self, if_true, if_false, Option.toList_some, Option.toList_none, List.cons_append, List.nil_append, qsL, qlong, List.length_cons, List.length_nil, iN_L, exI, iN_add, iN_mul, iN_le, iN_lt, iN_eq, Nat.le_refl, qfN0, qfN1, uX_16, vX_16, uX_19, vX_19, uX_27, vX_27, uX_30, vX_30, uX_39, vX_39, uX_41, vX_41, uX_43, vX_43, uX_46, vX_46, uX_50, vX_50, uX_53, vX_53, gX_41_1, r2, show ¬ r.length ≤ t by omega, sp, sb, z]
            · rw [decide_eq_false z, if_neg Bool.false_ne_true, Nat.add_zero (cntN W t)]
              simp (disch := first | assumption | omega) only [e10_0, e10_1, e10_2, e10_3, e10_7, e10_8, e10_11, e10_14, e10_15, e10_16, e10_18, e10_21, e10_24, e10_25, e10_28, e10_31, e10_34, e10_37, e10_38, m10, ↓reduceIte, qg_0, qg_1, qg_2, qg_3, qg_4, qg_5, qg_6, qg_7, qg_8, qg_9, qg_10, qg_11, qg_12, qg_13, not_true_eq_false, not_false_eq_true, Nat.reduceBEq, Bool.false_eq_true, ex1, ex3, ex4, exF, qfit_i, qfit_l, qfit_r, qfit_n, qfit_b0, qfit_b1, qcat_i, qcat_r, qcat_n, qcat_l, qroom_0, qroom_c, List.map_cons, List.map_nil, List.sum_cons, List.sum_nil, Nat.reduceAdd, Nat.reduceMul, Nat.reduceLT, Nat.reduceLeDiff, Nat.reduceEqDiff, Nat.reduceSub, decide_true, true_and, and_true, and_self, if_true, if_false, Option.toList_some, Option.toList_none, List.cons_append, List.nil_append, qsL, qlong, List.length_cons, List.length_nil, iN_L, exI, iN_add, iN_mul, iN_le, iN_lt, iN_eq, Nat.le_refl, qfN0, qfN1, uX_16, vX_16, uX_19, vX_19, uX_27, vX_27, uX_30, vX_30, uX_39, vX_39, uX_41, vX_41, uX_43, vX_43, uX_46, vX_46, uX_50, vX_50, uX_53, vX_53, gX_41_1, r2, show ¬ r.length ≤ t by omega, sp, sb, z]
          · try dsimp only
            rw [e10_5]
            simp (disch := first | assumption | omega) only [e10_0, e10_1, e10_2, e10_3, e10_7, e10_8, e10_11, e10_14, e10_15, e10_16, e10_18, e10_21, e10_24, e10_25, e10_28, e10_31, e10_34, e10_37, e10_38, m10, ↓reduceIte, qg_0, qg_1, qg_2, qg_3, qg_4, qg_5, qg_6, qg_7, qg_8, qg_9, qg_10, qg_11, qg_12, qg_13, not_true_eq_false, not_false_eq_true, Nat.reduceBEq, Bool.false_eq_true, ex1, ex3, ex4, exF, qfit_i, qfit_l, qfit_r, qfit_n, qfit_b0, qfit_b1, qcat_i, qcat_r, qcat_n, qcat_l, qroom_0, qroom_c, List.map_cons, List.map_nil, List.sum_cons, List.sum_nil, Nat.reduceAdd, Nat.reduceMul, Nat.reduceLT, Nat.reduceLeDiff, Nat.reduceEqDiff, Nat.reduceSub, decide_true, true_and, and_true, and_self, if_true, if_false, Option.toList_some, Option.toList_none, List.cons_append, List.nil_append, qsL, qlong, List.length_cons, List.length_nil, iN_L, exI, iN_add, iN_mul, iN_le, iN_lt, iN_eq, Nat.le_refl, qfN0, qfN1, uX_16, vX_16, uX_19, vX_19, uX_27, vX_27, uX_30, vX_30, uX_39, vX_39, uX_41, vX_41, uX_43, vX_43, uX_46, vX_46, uX_50, vX_50, uX_53, vX_53, gX_41_1, r2]
        simp (disch := first | assumption | omega) only [e158_0, e158_1, e158_2, e158_5, e158_6, e158_7, e158_7N, e158_10, e158_11, e158_14, e158_15, e158_18, e158_21, e158_24, e158_25, e158_26, e158_29, e158_30, e158_31, e158_34, e158_37, e158_38, e158_39, e158_42, e158_45, e158_46, e158_49, e158_50, e158_51, e158_54, e158_57, e158_60, m158, ↓reduceIte, qg_0, qg_1, qg_2, qg_3, qg_4, qg_5, qg_6, qg_7, qg_8, qg_9, qg_10, qg_11, qg_12, qg_13, not_true_eq_false, not_false_eq_true, Nat.reduceBEq, Bool.false_eq_true, ex1, ex3, ex4, exF, qfit_i, qfit_l, qfit_r, qfit_n, qfit_b0, qfit_b1, qcat_i, qcat_r, qcat_n, qcat_l, qroom_0, qroom_c, List.map_cons, List.map_nil, List.sum_cons, List.sum_nil, Nat.reduceAdd, Nat.reduceMul, Nat.reduceLT, Nat.reduceLeDiff, Nat.reduceEqDiff, Nat.reduceSub, decide_true, true_and, and_true, and_self, if_true, if_false, Option.toList_some, Option.toList_none, List.cons_append, List.nil_append, qsL, qlong, List.length_cons, List.length_nil, iN_L, exI, iN_add, iN_mul, iN_le, iN_lt, iN_eq, Nat.le_refl, qfN0, qfN1, uX_16, vX_16, uX_19, vX_19, uX_27, vX_27, uX_30, vX_30, uX_39, vX_39, uX_41, vX_41, uX_43, vX_43, uX_46, vX_46, uX_50, vX_50, uX_53, vX_53, b, gX_16_8, io, iN10, show ¬ k < 0 by omega, hk, u16, ult, uF, g0, g1, g2, g3, g4, g5, g6, sf, pw]
end XMEETS2

/-! ===== THE CLASS: parted, where, holds ===== -/
section XWHERE
variable {d : Nat} {h : qH} {bs : List bdy} {sa : Nat → Nat} {R : qRes}
theorem BsX.q (X : BsX h bs sa) {i : Nat} (hi' : i < bs.length) : ∃ pp q w e B Q, SoD h (sa i) (dmn bs i) (scl bs i) (cnr bs i) (cel bs i) pp q w e B ∧ SoP (dmn bs i) (cnr bs i) (cel bs i) ∧ SoQ h w (bs.getD i b0).1 (dmn bs i) (fct bs i) Q := by
  obtain ⟨-, -, sp, ⟨p, q, w, e, B, S, Q, SQ⟩, -⟩ := X.2.2.2 i hi'
  exact ⟨p, q, w, e, B, Q, S, sp, SQ⟩
theorem SoP.fl {i : Nat} (P : SoP (dmn bs i) (cnr bs i) (cel bs i)) : (fct bs i).length ≤ 208 := (P.2.2.2.2.1 (dmn bs i - 1) (by have := P.1; omega)).1
/-- the class's planes and the reference's agree -/
theorem sg_all {i w : Nat} {Q Qv : Nat → Nat → Int} (X : BsX h bs sa) (hi' : i < bs.length) (V : SoQ h w (bs.getD i b0).1 (dmn bs i) (fct bs i) Q) (pl : plA bs i Qv) (p : pt4) {j : Nat} (hj : j < (fct bs i).length) : (0 < ovZ (Q j) (dmn bs i) p 1 ↔ 0 < ovZ (Qv j) (dmn bs i) p 1) ∧ (ovZ (Q j) (dmn bs i) p 1 = 0 ↔ ovZ (Qv j) (dmn bs i) p 1 = 0) := by
  obtain ⟨⟨ok, so⟩, -⟩ := X.2.2.2 i hi'
  exact pl_sgn ok so (V.2 j hj).1.1 (pl j hj) p 1
theorem prtZ_sg {i : Nat} {Q Qv : Nat → Nat → Int} {p : pt4} {v : Int32} (sg : ∀ j, j < (fct bs i).length → ((0 < ovZ (Q j) (dmn bs i) p 1 ↔ 0 < ovZ (Qv j) (dmn bs i) p 1) ∧ (ovZ (Q j) (dmn bs i) p 1 = 0 ↔ ovZ (Qv j) (dmn bs i) p 1 = 0))) (hv : prtZ bs i Qv p v) : prtZ bs i Q p v := by
  have le : ∀ j, j < (fct bs i).length → (ovZ (Q j) (dmn bs i) p 1 ≤ 0 ↔ ovZ (Qv j) (dmn bs i) p 1 ≤ 0) := fun j hj => by have := (sg j hj).1; omega
  rcases hv with ⟨h1, e⟩ | ⟨j, ⟨h1, h2, h3⟩, e⟩
  · exact Or.inl ⟨fun j hj => (le j hj).mpr (h1 j hj), e⟩
  · exact Or.inr ⟨j, ⟨h1, (sg j h1).1.mpr h2, fun k hk => (le k (by omega)).mpr (h3 k hk)⟩, e⟩
set_option maxRecDepth 100000 in
set_option maxHeartbeats 16000000 in
theorem x_first {i r t w : Nat} {p : pt4} {v : Int32} {Q : Nat → Nat → Int} {pp q e : Nat} {B : Nat → Nat} (S : SoD h (sa i) (dmn bs i) (scl bs i) (cnr bs i) (cel bs i) pp q w e B) (P : SoP (dmn bs i) (cnr bs i) (cel bs i)) (V : SoQ h w (bs.getD i b0).1 (dmn bs i) (fct bs i) Q) (sp : spX h r t p) (ht : t < 1000) (hv : prtZ bs i Q p v) : qMC (d + 2) 117 [.ref (sa i), .ref r, .int (iN t)] h R ↔ R = (some (.int v), h) := by
  have hb : ∀ j, j < (fct bs i).length → ∀ R, qMC (d + 1) 116 [.ref (sa i), .int (iN j), .ref r, .int (iN t)] h R ↔ R = (some (.long (lZ (ovZ (Q j) (dmn bs i) p 1))), h) := fun j hj R => x_beyond S P.1.1 V hj P.fl sp ht
  have lb : ∀ j, j < (fct bs i).length → lB (ovZ (Q j) (dmn bs i) p 1) := fun j hj => by
    obtain ⟨n, -, -, sv⟩ := sp
    exact ovZ_1b P.1.1 (V.2 j hj).1.2 fun k hk => (sv k hk).2
  obtain ⟨⟨u16, ult, uF⟩, g0, g1, g2, g3, g4, g5, g6⟩ := S.obj
  have fc : ∀ R, qMC (d + 1) 108 [.ref (sa i)] h R ↔ R = (some (.int (iN (fct bs i).length)), h) := fun R => x_facetCount S P.1
  have l8 := P.fl
  have go : ∀ (w' j : Nat), j + w' = (fct bs i).length → (∀ k, k < j → ovZ (Q k) (dmn bs i) p 1 ≤ 0) → (qEv (d + 1) 0 qk_117 2 [some (.ref (sa i)), some (.ref r), some (.int (iN t)), some (.int (iN j))] [] h R ↔ R = (some (.int v), h)) := by
    intro w'
    induction w' with
    | zero =>
      intro j hj hn
      rcases hv with ⟨h1, rfl⟩ | ⟨k, ⟨h1, h2, h3⟩, rfl⟩
      · rw [e117_2]
        simp (disch := first | assumption | omega) only [e117_0, e117_1, e117_3, e117_4, e117_7, e117_10, e117_11, e117_12, e117_13, e117_14, e117_17, e117_18, e117_19, e117_22, e117_23, e117_24, e117_27, e117_30, e117_31, m117, ↓reduceIte, qg_0, qg_1, qg_2, qg_3, qg_4, qg_5, qg_6, qg_7, qg_8, qg_9, qg_10, qg_11, qg_12, qg_13, not_true_eq_false, not_false_eq_true, Nat.reduceBEq, Bool.false_eq_true, ex1, ex3, ex4, exF, qfit_i, qfit_l, qfit_r, qfit_n, qfit_b0, qfit_b1, qcat_i, qcat_r, qcat_n, qcat_l, qroom_0, qroom_c, List.map_cons, List.map_nil, List.sum_cons, List.sum_nil, Nat.reduceAdd, Nat.reduceMul, Nat.reduceLT, Nat.reduceLeDiff, Nat.reduceEqDiff, Nat.reduceSub, decide_true, true_and, and_true, and_self, if_true, if_false, Option.toList_some, Option.toList_none, List.cons_append, List.nil_append, qsL, qlong, List.length_cons, List.length_nil, iN_L, exI, iN_add, iN_mul, iN_le, iN_lt, iN_eq, Nat.le_refl, qfN0, qfN1, uX_16, vX_16, uX_19, vX_19, uX_27, vX_27, uX_30, vX_30, uX_39, vX_39, uX_41, vX_41, uX_43, vX_43, uX_46, vX_46, uX_50, vX_50, uX_53, vX_53, u16, ult, uF, g0, g1, g2, g3, g4, g5, g6, fc, show (fct bs i).length ≤ j by omega]
      · have := hn k (by omega); omega
    | succ w' ih =>
      intro j hj hn
      have hj' : j < (fct bs i).length := by omega
      have hbj := hb j hj'
      have le := lZ_le (lb j hj') lB_0
      by_cases z : ovZ (Q j) (dmn bs i) p 1 ≤ 0
      · rw [← ih (j + 1) (by omega) (fun k hk => by
          rcases Nat.lt_or_ge k j with y | y
          · exact hn k y
          · rw [show k = j by omega]; exact z), e117_2]
        simp (disch := first | assumption | omega) only [e117_0, e117_1, e117_3, e117_4, e117_7, e117_10, e117_11, e117_12, e117_13, e117_14, e117_17, e117_18, e117_19, e117_22, e117_23, e117_24, e117_27, e117_30, e117_31, m117, ↓reduceIte, qg_0, qg_1, qg_2, qg_3, qg_4, qg_5, qg_6, qg_7, qg_8, qg_9, qg_10, qg_11, qg_12, qg_13, not_true_eq_false, not_false_eq_true, Nat.reduceBEq, Bool.false_eq_true, ex1, ex3, ex4, exF, qfit_i, qfit_l, qfit_r, qfit_n, qfit_b0, qfit_b1, qcat_i, qcat_r, qcat_n, qcat_l, qroom_0, qroom_c, List.map_cons, List.map_nil, List.sum_cons, List.sum_nil, Nat.reduceAdd, Nat.reduceMul, Nat.reduceLT, Nat.reduceLeDiff, Nat.reduceEqDiff, Nat.reduceSub, decide_true, true_and, and_true, and_self, if_true, if_false, Option.toList_some, Option.toList_none, List.cons_append, List.nil_append, qsL, qlong, List.length_cons, List.length_nil, iN_L, exI, iN_add, iN_mul, iN_le, iN_lt, iN_eq, Nat.le_refl, qfN0, qfN1, uX_16, vX_16, uX_19, vX_19, uX_27, vX_27, uX_30, vX_30, uX_39, vX_39, uX_41, vX_41, uX_43, vX_43, uX_46, vX_46, uX_50, vX_50, uX_53, vX_53, u16, ult, uF, g0, g1, g2, g3, g4, g5, g6, fc, show ¬ (fct bs i).length ≤ j by omega, hbj, lgN_le, show (0 : Int64) = lZ 0 from rfl, le, z]
      · rcases hv with ⟨h1, rfl⟩ | ⟨k, ⟨h1, h2, h3⟩, rfl⟩
        · exact absurd (h1 j hj') z
        · have ek : k = j := by
            rcases Nat.lt_trichotomy k j with y | y | y
            · have := hn k y; omega
            · exact y
            · exact absurd (h3 j y) z
          rw [ek, e117_2]
          simp (disch := first | assumption | omega) only [e117_0, e117_1, e117_3, e117_4, e117_7, e117_10, e117_11, e117_12, e117_13, e117_14, e117_17, e117_18, e117_19, e117_22, e117_23, e117_24, e117_27, e117_30, e117_31, m117, ↓reduceIte, qg_0, qg_1, qg_2, qg_3, qg_4, qg_5, qg_6, qg_7, qg_8, qg_9, qg_10, qg_11, qg_12, qg_13, not_true_eq_false, not_false_eq_true, Nat.reduceBEq, Bool.false_eq_true, ex1, ex3, ex4, exF, qfit_i, qfit_l, qfit_r, qfit_n, qfit_b0, qfit_b1, qcat_i, qcat_r, qcat_n, qcat_l, qroom_0, qroom_c, List.map_cons, List.map_nil, List.sum_cons, List.sum_nil, Nat.reduceAdd, Nat.reduceMul, Nat.reduceLT, Nat.reduceLeDiff, Nat.reduceEqDiff, Nat.reduceSub, decide_true, true_and, and_true, and_self, if_true, if_false, Option.toList_some, Option.toList_none, List.cons_append, List.nil_append, qsL, qlong, List.length_cons, List.length_nil, iN_L, exI, iN_add, iN_mul, iN_le, iN_lt, iN_eq, Nat.le_refl, qfN0, qfN1, uX_16, vX_16, uX_19, vX_19, uX_27, vX_27, uX_30, vX_30, uX_39, vX_39, uX_41, vX_41, uX_43, vX_43, uX_46, vX_46, uX_50, vX_50, uX_53, vX_53, u16, ult, uF, g0, g1, g2, g3, g4, g5, g6, fc, show ¬ (fct bs i).length ≤ j by omega, hbj, lgN_le, show (0 : Int64) = lZ 0 from rfl, le, z]
  rw [← go (fct bs i).length 0 (by omega) (fun k hk => absurd hk (Nat.not_lt_zero k))]
  simp (disch := first | assumption | omega) only [e117_0, e117_1, e117_3, e117_4, e117_7, e117_10, e117_11, e117_12, e117_13, e117_14, e117_17, e117_18, e117_19, e117_22, e117_23, e117_24, e117_27, e117_30, e117_31, m117, ↓reduceIte, qg_0, qg_1, qg_2, qg_3, qg_4, qg_5, qg_6, qg_7, qg_8, qg_9, qg_10, qg_11, qg_12, qg_13, not_true_eq_false, not_false_eq_true, Nat.reduceBEq, Bool.false_eq_true, ex1, ex3, ex4, exF, qfit_i, qfit_l, qfit_r, qfit_n, qfit_b0, qfit_b1, qcat_i, qcat_r, qcat_n, qcat_l, qroom_0, qroom_c, List.map_cons, List.map_nil, List.sum_cons, List.sum_nil, Nat.reduceAdd, Nat.reduceMul, Nat.reduceLT, Nat.reduceLeDiff, Nat.reduceEqDiff, Nat.reduceSub, decide_true, true_and, and_true, and_self, if_true, if_false, Option.toList_some, Option.toList_none, List.cons_append, List.nil_append, qsL, qlong, List.length_cons, List.length_nil, iN_L, exI, iN_add, iN_mul, iN_le, iN_lt, iN_eq, Nat.le_refl, qfN0, qfN1, uX_16, vX_16, uX_19, vX_19, uX_27, vX_27, uX_30, vX_30, uX_39, vX_39, uX_41, vX_41, uX_43, vX_43, uX_46, vX_46, uX_50, vX_50, uX_53, vX_53]
theorem DrX.sp {dr : List pt4} (s : ShX h) (dv : DrX h dr) (h0 : 0 < dr.length) : spX h 18 ((dr.length - 1) * 4) (lstP dr) := by
  obtain ⟨l16, -, v⟩ := dv
  refine ⟨64, kX_18 s, by omega, fun k hk => ?_⟩
  have := v (dr.length - 1) (by omega) k hk
  rw [Nat.mul_comm (dr.length - 1)]
  exact this
set_option maxRecDepth 100000 in
theorem x_lastDraft {dr : List pt4} (s : ShX h) (dv : DrX h dr) (h0 : 0 < dr.length) : qMC (d + 1) 180 [.ref 16] h R ↔ R = (some (.int (iN ((dr.length - 1) * 4))), h) := by
  have m3 := dv.2.1
  have e1 : iN dr.length - iN 1 = iN (dr.length - 1) := iN_sub (by omega)
  simp (disch := first | assumption | omega) only [e180_0, e180_1, e180_4, e180_5, e180_6, e180_7, e180_8, m180, ↓reduceIte, qg_0, qg_1, qg_2, qg_3, qg_4, qg_5, qg_6, qg_7, qg_8, qg_9, qg_10, qg_11, qg_12, qg_13, not_true_eq_false, not_false_eq_true, Nat.reduceBEq, Bool.false_eq_true, ex1, ex3, ex4, exF, qfit_i, qfit_l, qfit_r, qfit_n, qfit_b0, qfit_b1, qcat_i, qcat_r, qcat_n, qcat_l, qroom_0, qroom_c, List.map_cons, List.map_nil, List.sum_cons, List.sum_nil, Nat.reduceAdd, Nat.reduceMul, Nat.reduceLT, Nat.reduceLeDiff, Nat.reduceEqDiff, Nat.reduceSub, decide_true, true_and, and_true, and_self, if_true, if_false, Option.toList_some, Option.toList_none, List.cons_append, List.nil_append, qsL, qlong, List.length_cons, List.length_nil, iN_L, exI, iN_add, iN_mul, iN_le, iN_lt, iN_eq, Nat.le_refl, qfN0, qfN1, uX_16, vX_16, uX_19, vX_19, uX_27, vX_27, uX_30, vX_30, uX_39, vX_39, uX_41, vX_41, uX_43, vX_43, uX_46, vX_46, uX_50, vX_50, uX_53, vX_53, gX_16_3, m3, e1]
set_option maxRecDepth 100000 in
set_option maxHeartbeats 16000000 in
theorem x_parted {dr : List pt4} {x v : Int32} (s : ShX h) (X : BsX h bs sa) (dv : DrX h dr) (hv : prtR bs dr x v) : qMC (d + 3) 166 [.ref 16, .int x] h R ↔ R = (some (.int v), h) := by
  have m3 := dv.2.1
  have d16 := dv.1
  rcases hv with ⟨hx, rfl⟩ | ⟨i, ⟨hi', rfl⟩, hv⟩
  · have b : ∀ R, qMC (d + 2) 179 [.ref 16, .int x] h R ↔ R = (some .null, h) := fun R => x_bodyAt0 s X hx
    simp (disch := first | assumption | omega) only [e166_0, e166_1, e166_2, e166_5, e166_6, e166_7, e166_7N, e166_10, e166_13, e166_14, e166_15, e166_18, e166_21, e166_24, e166_27, e166_28, e166_29, e166_32, e166_33, e166_36, e166_39, m166, ↓reduceIte, qg_0, qg_1, qg_2, qg_3, qg_4, qg_5, qg_6, qg_7, qg_8, qg_9, qg_10, qg_11, qg_12, qg_13, not_true_eq_false, not_false_eq_true, Nat.reduceBEq, Bool.false_eq_true, ex1, ex3, ex4, exF, qfit_i, qfit_l, qfit_r, qfit_n, qfit_b0, qfit_b1, qcat_i, qcat_r, qcat_n, qcat_l, qroom_0, qroom_c, List.map_cons, List.map_nil, List.sum_cons, List.sum_nil, Nat.reduceAdd, Nat.reduceMul, Nat.reduceLT, Nat.reduceLeDiff, Nat.reduceEqDiff, Nat.reduceSub, decide_true, true_and, and_true, and_self, if_true, if_false, Option.toList_some, Option.toList_none, List.cons_append, List.nil_append, qsL, qlong, List.length_cons, List.length_nil, iN_L, exI, iN_add, iN_mul, iN_le, iN_lt, iN_eq, Nat.le_refl, qfN0, qfN1, uX_16, vX_16, uX_19, vX_19, uX_27, vX_27, uX_30, vX_30, uX_39, vX_39, uX_41, vX_41, uX_43, vX_43, uX_46, vX_46, uX_50, vX_50, uX_53, vX_53, b]
  · have b : ∀ R, qMC (d + 2) 179 [.ref 16, .int (iN i)] h R ↔ R = (some (.ref (sa i)), h) := fun R => x_bodyAt1 s X hi'
    obtain ⟨pp, q, w, e, B, Q, S, P, V⟩ := X.q hi'
    obtain ⟨⟨u16, ult, uF⟩, g0, g1, g2, g3, g4, g5, g6⟩ := S.obj
    rcases hv with ⟨h0, rfl⟩ | ⟨h0, Qv, pl, hv⟩
    · simp (disch := first | assumption | omega) only [e166_0, e166_1, e166_2, e166_5, e166_6, e166_7, e166_7N, e166_10, e166_13, e166_14, e166_15, e166_18, e166_21, e166_24, e166_27, e166_28, e166_29, e166_32, e166_33, e166_36, e166_39, m166, ↓reduceIte, qg_0, qg_1, qg_2, qg_3, qg_4, qg_5, qg_6, qg_7, qg_8, qg_9, qg_10, qg_11, qg_12, qg_13, not_true_eq_false, not_false_eq_true, Nat.reduceBEq, Bool.false_eq_true, ex1, ex3, ex4, exF, qfit_i, qfit_l, qfit_r, qfit_n, qfit_b0, qfit_b1, qcat_i, qcat_r, qcat_n, qcat_l, qroom_0, qroom_c, List.map_cons, List.map_nil, List.sum_cons, List.sum_nil, Nat.reduceAdd, Nat.reduceMul, Nat.reduceLT, Nat.reduceLeDiff, Nat.reduceEqDiff, Nat.reduceSub, decide_true, true_and, and_true, and_self, if_true, if_false, Option.toList_some, Option.toList_none, List.cons_append, List.nil_append, qsL, qlong, List.length_cons, List.length_nil, iN_L, exI, iN_add, iN_mul, iN_le, iN_lt, iN_eq, Nat.le_refl, qfN0, qfN1, uX_16, vX_16, uX_19, vX_19, uX_27, vX_27, uX_30, vX_30, uX_39, vX_39, uX_41, vX_41, uX_43, vX_43, uX_46, vX_46, uX_50, vX_50, uX_53, vX_53, b, gX_16_3, m3, h0]
    · have fb : ∀ R, qMC (d + 2) 117 [.ref (sa i), .ref 18, .int (iN ((dr.length - 1) * 4))] h R ↔ R = (some (.int v), h) := fun R => x_first S P V (dv.sp s h0) (by omega) (prtZ_sg (fun j hj => sg_all X hi' V pl (lstP dr) hj) hv)
      have ld : ∀ R, qMC (d + 2) 180 [.ref 16] h R ↔ _ := fun R => x_lastDraft s dv h0
      simp (disch := first | assumption | omega) only [e166_0, e166_1, e166_2, e166_5, e166_6, e166_7, e166_7N, e166_10, e166_13, e166_14, e166_15, e166_18, e166_21, e166_24, e166_27, e166_28, e166_29, e166_32, e166_33, e166_36, e166_39, m166, ↓reduceIte, qg_0, qg_1, qg_2, qg_3, qg_4, qg_5, qg_6, qg_7, qg_8, qg_9, qg_10, qg_11, qg_12, qg_13, not_true_eq_false, not_false_eq_true, Nat.reduceBEq, Bool.false_eq_true, ex1, ex3, ex4, exF, qfit_i, qfit_l, qfit_r, qfit_n, qfit_b0, qfit_b1, qcat_i, qcat_r, qcat_n, qcat_l, qroom_0, qroom_c, List.map_cons, List.map_nil, List.sum_cons, List.sum_nil, Nat.reduceAdd, Nat.reduceMul, Nat.reduceLT, Nat.reduceLeDiff, Nat.reduceEqDiff, Nat.reduceSub, decide_true, true_and, and_true, and_self, if_true, if_false, Option.toList_some, Option.toList_none, List.cons_append, List.nil_append, qsL, qlong, List.length_cons, List.length_nil, iN_L, exI, iN_add, iN_mul, iN_le, iN_lt, iN_eq, Nat.le_refl, qfN0, qfN1, uX_16, vX_16, uX_19, vX_19, uX_27, vX_27, uX_30, vX_30, uX_39, vX_39, uX_41, vX_41, uX_43, vX_43, uX_46, vX_46, uX_50, vX_50, uX_53, vX_53, b, gX_16_3, m3, show ¬ dr.length = 0 by omega, gX_16_2, ld, u16, ult, uF, g0, g1, g2, g3, g4, g5, g6, fb]
set_option maxRecDepth 100000 in
set_option maxHeartbeats 16000000 in
theorem x_holds {x y v : Int32} (s : ShX h) (X : BsX h bs sa) (hv : hldR bs x y v) : qMC (d + 3) 167 [.ref 16, .int x, .int y] h R ↔ R = (some (.int v), h) := by
  rcases hv with ⟨hn, rfl⟩ | ⟨i, j, ⟨hi', rfl⟩, ⟨hj, rfl⟩, hv⟩
  · by_cases hx : isB bs x
    · have hy : ¬ isB bs y := fun z => hn ⟨hx, z⟩
      obtain ⟨i, hi', rfl⟩ := id hx
      have b : ∀ R, qMC (d + 2) 179 [.ref 16, .int (iN i)] h R ↔ R = (some (.ref (sa i)), h) := fun R => x_bodyAt1 s X hi'
      have b2 : ∀ R, qMC (d + 2) 179 [.ref 16, .int y] h R ↔ R = (some .null, h) := fun R => x_bodyAt0 s X hy
      simp (disch := first | assumption | omega) only [e167_0, e167_1, e167_2, e167_5, e167_6, e167_7, e167_8, e167_11, e167_13, e167_14, e167_14N, e167_17, e167_19, e167_19N, e167_22, e167_25, e167_26, e167_27, e167_30, e167_32, e167_35, e167_38, e167_41, e167_42, e167_43, e167_45, e167_46, e167_48, e167_50, e167_52, e167_55, e167_58, e167_59, e167_61, e167_64, e167_66, e167_67, e167_68, e167_71, e167_72, e167_75, e167_78, e167_81, e167_84, e167_86, m167, ↓reduceIte, qg_0, qg_1, qg_2, qg_3, qg_4, qg_5, qg_6, qg_7, qg_8, qg_9, qg_10, qg_11, qg_12, qg_13, not_true_eq_false, not_false_eq_true, Nat.reduceBEq, Bool.false_eq_true, ex1, ex3, ex4, exF, qfit_i, qfit_l, qfit_r, qfit_n, qfit_b0, qfit_b1, qcat_i, qcat_r, qcat_n, qcat_l, qroom_0, qroom_c, List.map_cons, List.map_nil, List.sum_cons, List.sum_nil, Nat.reduceAdd, Nat.reduceMul, Nat.reduceLT, Nat.reduceLeDiff, Nat.reduceEqDiff, Nat.reduceSub, decide_true, true_and, and_true, and_self, if_true, if_false, Option.toList_some, Option.toList_none, List.cons_append, List.nil_append, qsL, qlong, List.length_cons, List.length_nil, iN_L, exI, iN_add, iN_mul, iN_le, iN_lt, iN_eq, Nat.le_refl, qfN0, qfN1, uX_16, vX_16, uX_19, vX_19, uX_27, vX_27, uX_30, vX_30, uX_39, vX_39, uX_41, vX_41, uX_43, vX_43, uX_46, vX_46, uX_50, vX_50, uX_53, vX_53, b, b2]
    · have b : ∀ R, qMC (d + 2) 179 [.ref 16, .int x] h R ↔ R = (some .null, h) := fun R => x_bodyAt0 s X hx
      by_cases hy : isB bs y
      · obtain ⟨j, hj, rfl⟩ := id hy
        have b2 : ∀ R, qMC (d + 2) 179 [.ref 16, .int (iN j)] h R ↔ R = (some (.ref (sa j)), h) := fun R => x_bodyAt1 s X hj
        simp (disch := first | assumption | omega) only [e167_0, e167_1, e167_2, e167_5, e167_6, e167_7, e167_8, e167_11, e167_13, e167_14, e167_14N, e167_17, e167_19, e167_19N, e167_22, e167_25, e167_26, e167_27, e167_30, e167_32, e167_35, e167_38, e167_41, e167_42, e167_43, e167_45, e167_46, e167_48, e167_50, e167_52, e167_55, e167_58, e167_59, e167_61, e167_64, e167_66, e167_67, e167_68, e167_71, e167_72, e167_75, e167_78, e167_81, e167_84, e167_86, m167, ↓reduceIte, qg_0, qg_1, qg_2, qg_3, qg_4, qg_5, qg_6, qg_7, qg_8, qg_9, qg_10, qg_11, qg_12, qg_13, not_true_eq_false, not_false_eq_true, Nat.reduceBEq, Bool.false_eq_true, ex1, ex3, ex4, exF, qfit_i, qfit_l, qfit_r, qfit_n, qfit_b0, qfit_b1, qcat_i, qcat_r, qcat_n, qcat_l, qroom_0, qroom_c, List.map_cons, List.map_nil, List.sum_cons, List.sum_nil, Nat.reduceAdd, Nat.reduceMul, Nat.reduceLT, Nat.reduceLeDiff, Nat.reduceEqDiff, Nat.reduceSub, decide_true, true_and, and_true, and_self, if_true, if_false, Option.toList_some, Option.toList_none, List.cons_append, List.nil_append, qsL, qlong, List.length_cons, List.length_nil, iN_L, exI, iN_add, iN_mul, iN_le, iN_lt, iN_eq, Nat.le_refl, qfN0, qfN1, uX_16, vX_16, uX_19, vX_19, uX_27, vX_27, uX_30, vX_30, uX_39, vX_39, uX_41, vX_41, uX_43, vX_43, uX_46, vX_46, uX_50, vX_50, uX_53, vX_53, b, b2]
      · have b2 : ∀ R, qMC (d + 2) 179 [.ref 16, .int y] h R ↔ R = (some .null, h) := fun R => x_bodyAt0 s X hy
        simp (disch := first | assumption | omega) only [e167_0, e167_1, e167_2, e167_5, e167_6, e167_7, e167_8, e167_11, e167_13, e167_14, e167_14N, e167_17, e167_19, e167_19N, e167_22, e167_25, e167_26, e167_27, e167_30, e167_32, e167_35, e167_38, e167_41, e167_42, e167_43, e167_45, e167_46, e167_48, e167_50, e167_52, e167_55, e167_58, e167_59, e167_61, e167_64, e167_66, e167_67, e167_68, e167_71, e167_72, e167_75, e167_78, e167_81, e167_84, e167_86, m167, ↓reduceIte, qg_0, qg_1, qg_2, qg_3, qg_4, qg_5, qg_6, qg_7, qg_8, qg_9, qg_10, qg_11, qg_12, qg_13, not_true_eq_false, not_false_eq_true, Nat.reduceBEq, Bool.false_eq_true, ex1, ex3, ex4, exF, qfit_i, qfit_l, qfit_r, qfit_n, qfit_b0, qfit_b1, qcat_i, qcat_r, qcat_n, qcat_l, qroom_0, qroom_c, List.map_cons, List.map_nil, List.sum_cons, List.sum_nil, Nat.reduceAdd, Nat.reduceMul, Nat.reduceLT, Nat.reduceLeDiff, Nat.reduceEqDiff, Nat.reduceSub, decide_true, true_and, and_true, and_self, if_true, if_false, Option.toList_some, Option.toList_none, List.cons_append, List.nil_append, qsL, qlong, List.length_cons, List.length_nil, iN_L, exI, iN_add, iN_mul, iN_le, iN_lt, iN_eq, Nat.le_refl, qfN0, qfN1, uX_16, vX_16, uX_19, vX_19, uX_27, vX_27, uX_30, vX_30, uX_39, vX_39, uX_41, vX_41, uX_43, vX_43, uX_46, vX_46, uX_50, vX_50, uX_53, vX_53, b, b2]
  · have b : ∀ R, qMC (d + 2) 179 [.ref 16, .int (iN i)] h R ↔ R = (some (.ref (sa i)), h) := fun R => x_bodyAt1 s X hi'
    have b2 : ∀ R, qMC (d + 2) 179 [.ref 16, .int (iN j)] h R ↔ R = (some (.ref (sa j)), h) := fun R => x_bodyAt1 s X hj
    obtain ⟨pp, q, w, e, B, Q, S, P, V⟩ := X.q hi'
    obtain ⟨⟨u16, ult, uF⟩, g0, g1, g2, g3, g4, g5, g6⟩ := S.obj
    obtain ⟨pj, qj, wj, ej, Bj, Qj, S', P', V'⟩ := X.q hj
    obtain ⟨⟨u16', ult', uF'⟩, g0', g1', g2', g3', g4', g5', g6'⟩ := S'.obj
    have hD := P.1
    have hD' := P'.1
    have n16 := P'.2.1.2
    rcases hv with ⟨hne, rfl⟩ | ⟨he, Qv, pl, rfl⟩
    · simp (disch := first | assumption | omega) only [e167_0, e167_1, e167_2, e167_5, e167_6, e167_7, e167_8, e167_11, e167_13, e167_14, e167_14N, e167_17, e167_19, e167_19N, e167_22, e167_25, e167_26, e167_27, e167_30, e167_32, e167_35, e167_38, e167_41, e167_42, e167_43, e167_45, e167_46, e167_50, e167_52, e167_55, e167_58, e167_59, e167_61, e167_64, e167_66, e167_67, e167_68, e167_71, e167_72, e167_75, e167_78, e167_81, e167_84, e167_86, m167, ↓reduceIte, qg_0, qg_1, qg_2, qg_3, qg_4, qg_5, qg_6, qg_7, qg_8, qg_9, qg_10, qg_11, qg_12, qg_13, not_true_eq_false, not_false_eq_true, Nat.reduceBEq, Bool.false_eq_true, ex1, ex3, ex4, exF, qfit_i, qfit_l, qfit_r, qfit_n, qfit_b0, qfit_b1, qcat_i, qcat_r, qcat_n, qcat_l, qroom_0, qroom_c, List.map_cons, List.map_nil, List.sum_cons, List.sum_nil, Nat.reduceAdd, Nat.reduceMul, Nat.reduceLT, Nat.reduceLeDiff, Nat.reduceEqDiff, Nat.reduceSub, decide_true, true_and, and_true, and_self, if_true, if_false, Option.toList_some, Option.toList_none, List.cons_append, List.nil_append, qsL, qlong, List.length_cons, List.length_nil, iN_L, exI, iN_add, iN_mul, iN_le, iN_lt, iN_eq, Nat.le_refl, qfN0, qfN1, uX_16, vX_16, uX_19, vX_19, uX_27, vX_27, uX_30, vX_30, uX_39, vX_39, uX_41, vX_41, uX_43, vX_43, uX_46, vX_46, uX_50, vX_50, uX_53, vX_53, b, b2, u16, ult, uF, g0, g1, g2, g3, g4, g5, g6, u16', ult', uF', g0', g1', g2', g3', g4', g5', g6', hne]
    · obtain ⟨W, eW⟩ : ∃ W : Nat → Bool, W = fun c => inBd bs i Qv ((cnr bs j).getD c z4) := ⟨_, rfl⟩
      rw [← eW]
      have r0 : qMC (d + 3) 167 [.ref 16, .int (iN i), .int (iN j)] h R ↔ qEv (d + 2) 0 qk_167 48 [some (.ref 16), some (.int (iN i)), some (.int (iN j)), some (.ref (sa i)), some (.ref (sa j)), some (.int (iN (cntN W 0))), some (.int (iN 0))] [] h R := by
        rw [show cntN W 0 = 0 from rfl]
        simp (disch := first | assumption | omega) only [e167_0, e167_1, e167_2, e167_5, e167_6, e167_7, e167_8, e167_11, e167_13, e167_14, e167_14N, e167_17, e167_19, e167_19N, e167_22, e167_25, e167_26, e167_27, e167_30, e167_32, e167_35, e167_38, e167_41, e167_42, e167_43, e167_45, e167_46, e167_50, e167_52, e167_55, e167_58, e167_59, e167_61, e167_64, e167_66, e167_67, e167_68, e167_71, e167_72, e167_75, e167_78, e167_81, e167_84, e167_86, m167, ↓reduceIte, qg_0, qg_1, qg_2, qg_3, qg_4, qg_5, qg_6, qg_7, qg_8, qg_9, qg_10, qg_11, qg_12, qg_13, not_true_eq_false, not_false_eq_true, Nat.reduceBEq, Bool.false_eq_true, ex1, ex3, ex4, exF, qfit_i, qfit_l, qfit_r, qfit_n, qfit_b0, qfit_b1, qcat_i, qcat_r, qcat_n, qcat_l, qroom_0, qroom_c, List.map_cons, List.map_nil, List.sum_cons, List.sum_nil, Nat.reduceAdd, Nat.reduceMul, Nat.reduceLT, Nat.reduceLeDiff, Nat.reduceEqDiff, Nat.reduceSub, decide_true, true_and, and_true, and_self, if_true, if_false, Option.toList_some, Option.toList_none, List.cons_append, List.nil_append, qsL, qlong, List.length_cons, List.length_nil, iN_L, exI, iN_add, iN_mul, iN_le, iN_lt, iN_eq, Nat.le_refl, qfN0, qfN1, uX_16, vX_16, uX_19, vX_19, uX_27, vX_27, uX_30, vX_30, uX_39, vX_39, uX_41, vX_41, uX_43, vX_43, uX_46, vX_46, uX_50, vX_50, uX_53, vX_53, b, b2, u16, ult, uF, g0, g1, g2, g3, g4, g5, g6, u16', ult', uF', g0', g1', g2', g3', g4', g5', g6', he]
      rw [r0]
      refine Iff.trans (loop_up (n := (cnr bs j).length) (L := fun c => [some (.ref 16), some (.int (iN i)), some (.int (iN j)), some (.ref (sa i)), some (.ref (sa j)), some (.int (iN (cntN W c))), some (.int (iN c))]) (H := fun _ => h) ?_) ?_
      · intro c hc
        try dsimp only
        have sp : spX h pj (c * 4) ((cnr bs j).getD c z4) := ⟨4 * (cnr bs j).length, S'.2.2.1.2.1, by omega, fun k hk => ⟨S'.2.2.1.2.2 c hc k hk, P'.2.2.1 c hc k hk⟩⟩
        have sg := fun t ht => sg_all (j := t) X hi' V pl ((cnr bs j).getD c z4) ht
        have hW : W c = inBd bs i Qv ((cnr bs j).getD c z4) := by rw [eW]
        rw [e167_48, cntN, hW]
        cases z : inBd bs i Qv ((cnr bs j).getD c z4) with
        | true =>
          have pz : prtZ bs i Q ((cnr bs j).getD c z4) (-1) := prtZ_sg sg (Or.inl ⟨fun t ht => of_decide_eq_true (allN_iff.mp z t ht), rfl⟩)
          have fb : ∀ R, qMC (d + 2) 117 [.ref (sa i), .ref pj, .int (iN (c * 4))] h R ↔ R = (some (.int (-iN 1)), h) := fun R => x_first S P V sp (by omega) pz
          rw [if_pos rfl]
          simp (disch := first | assumption | omega) only [e167_0, e167_1, e167_2, e167_5, e167_6, e167_7, e167_8, e167_11, e167_13, e167_14, e167_14N, e167_17, e167_19, e167_19N, e167_22, e167_25, e167_26, e167_27, e167_30, e167_32, e167_35, e167_38, e167_41, e167_42, e167_43, e167_45, e167_46, e167_50, e167_52, e167_55, e167_58, e167_59, e167_61, e167_64, e167_66, e167_67, e167_68, e167_71, e167_72, e167_75, e167_78, e167_81, e167_84, e167_86, m167, ↓reduceIte, qg_0, qg_1, qg_2, qg_3, qg_4, qg_5, qg_6, qg_7, qg_8, qg_9, qg_10, qg_11, qg_12, qg_13, not_true_eq_false, not_false_eq_true, Nat.reduceBEq, Bool.false_eq_true, ex1, ex3, ex4, exF, qfit_i, qfit_l, qfit_r, qfit_n, qfit_b0, qfit_b1, qcat_i, qcat_r, qcat_n, qcat_l, qroom_0, qroom_c, List.map_cons, List.map_nil, List.sum_cons, List.sum_nil, Nat.reduceAdd, Nat.reduceMul, Nat.reduceLT, Nat.reduceLeDiff, Nat.reduceEqDiff, Nat.reduceSub, decide_true, true_and, and_true, and_self, if_true, if_false, Option.toList_some, Option.toList_none, List.cons_append, List.nil_append, qsL, qlong, List.length_cons, List.length_nil, iN_L, exI, iN_add, iN_mul, iN_le, iN_lt, iN_eq, Nat.le_refl, qfN0, qfN1, uX_16, vX_16, uX_19, vX_19, uX_27, vX_27, uX_30, vX_30, uX_39, vX_39, uX_41, vX_41, uX_43, vX_43, uX_46, vX_46, uX_50, vX_50, uX_53, vX_53, u16', ult', uF', g0', g1', g2', g3', g4', g5', g6', u16, ult, uF, g0, g1, g2, g3, g4, g5, g6, show ¬ (cnr bs j).length ≤ c by omega, fb]
        | false =>
          obtain ⟨t, t1, t2, t3⟩ : ∃ t, t < (fct bs i).length ∧ 0 < ovZ (Qv t) (dmn bs i) ((cnr bs j).getD c z4) 1 ∧ ∀ k, k < t → ovZ (Qv k) (dmn bs i) ((cnr bs j).getD c z4) 1 ≤ 0 := by
            obtain ⟨t, t1, t2⟩ : ∃ t, t < (fct bs i).length ∧ 0 < ovZ (Qv t) (dmn bs i) ((cnr bs j).getD c z4) 1 := by
              apply Classical.byContradiction
              intro y
              have : inBd bs i Qv ((cnr bs j).getD c z4) = true := allN_iff.mpr fun t ht => decide_eq_true (by
                have : ¬ 0 < ovZ (Qv t) (dmn bs i) ((cnr bs j).getD c z4) 1 := fun w => y ⟨t, ht, w⟩
                omega)
              rw [this] at z; cases z
            obtain ⟨k, k1, k2, k3⟩ := least (p := fun t => t < (fct bs i).length ∧ 0 < ovZ (Qv t) (dmn bs i) ((cnr bs j).getD c z4) 1) ⟨t, Nat.le_refl _, t1, t2⟩
            refine ⟨k, k2.1, k2.2, fun u hu => ?_⟩
            have : ¬ (u < (fct bs i).length ∧ 0 < ovZ (Qv u) (dmn bs i) ((cnr bs j).getD c z4) 1) := k3 u hu
            have := k2.1
            omega
          have pz : prtZ bs i Q ((cnr bs j).getD c z4) (iN t) := prtZ_sg sg (Or.inr ⟨t, ⟨t1, t2, t3⟩, rfl⟩)
          have fb : ∀ R, qMC (d + 2) 117 [.ref (sa i), .ref pj, .int (iN (c * 4))] h R ↔ R = (some (.int (iN t)), h) := fun R => x_first S P V sp (by omega) pz
          have l8 := P.fl
          have nm : ¬ iN t = -iN 1 := fun y => by
            have h1 := congrArg Int32.toInt y
            rw [iN_int (by omega), show (-iN 1).toInt = -1 from rfl] at h1
            omega
          rw [if_neg Bool.false_ne_true, Nat.add_zero (cntN W c)]
          simp (disch := first | assumption | omega) only [e167_0, e167_1, e167_2, e167_5, e167_6, e167_7, e167_8, e167_11, e167_13, e167_14, e167_14N, e167_17, e167_19, e167_19N, e167_22, e167_25, e167_26, e167_27, e167_30, e167_32, e167_35, e167_38, e167_41, e167_42, e167_43, e167_45, e167_46, e167_50, e167_52, e167_55, e167_58, e167_59, e167_61, e167_64, e167_66, e167_67, e167_68, e167_71, e167_72, e167_75, e167_78, e167_81, e167_84, e167_86, m167, ↓reduceIte, qg_0, qg_1, qg_2, qg_3, qg_4, qg_5, qg_6, qg_7, qg_8, qg_9, qg_10, qg_11, qg_12, qg_13, not_true_eq_false, not_false_eq_true, Nat.reduceBEq, Bool.false_eq_true, ex1, ex3, ex4, exF, qfit_i, qfit_l, qfit_r, qfit_n, qfit_b0, qfit_b1, qcat_i, qcat_r, qcat_n, qcat_l, qroom_0, qroom_c, List.map_cons, List.map_nil, List.sum_cons, List.sum_nil, Nat.reduceAdd, Nat.reduceMul, Nat.reduceLT, Nat.reduceLeDiff, Nat.reduceEqDiff, Nat.reduceSub, decide_true, true_and, and_true, and_self, if_true, if_false, Option.toList_some, Option.toList_none, List.cons_append, List.nil_append, qsL, qlong, List.length_cons, List.length_nil, iN_L, exI, iN_add, iN_mul, iN_le, iN_lt, iN_eq, Nat.le_refl, qfN0, qfN1, uX_16, vX_16, uX_19, vX_19, uX_27, vX_27, uX_30, vX_30, uX_39, vX_39, uX_41, vX_41, uX_43, vX_43, uX_46, vX_46, uX_50, vX_50, uX_53, vX_53, u16', ult', uF', g0', g1', g2', g3', g4', g5', g6', u16, ult, uF, g0, g1, g2, g3, g4, g5, g6, show ¬ (cnr bs j).length ≤ c by omega, fb, nm]
      · try dsimp only
        rw [e167_48]
        simp (disch := first | assumption | omega) only [e167_0, e167_1, e167_2, e167_5, e167_6, e167_7, e167_8, e167_11, e167_13, e167_14, e167_14N, e167_17, e167_19, e167_19N, e167_22, e167_25, e167_26, e167_27, e167_30, e167_32, e167_35, e167_38, e167_41, e167_42, e167_43, e167_45, e167_46, e167_50, e167_52, e167_55, e167_58, e167_59, e167_61, e167_64, e167_66, e167_67, e167_68, e167_71, e167_72, e167_75, e167_78, e167_81, e167_84, e167_86, m167, ↓reduceIte, qg_0, qg_1, qg_2, qg_3, qg_4, qg_5, qg_6, qg_7, qg_8, qg_9, qg_10, qg_11, qg_12, qg_13, not_true_eq_false, not_false_eq_true, Nat.reduceBEq, Bool.false_eq_true, ex1, ex3, ex4, exF, qfit_i, qfit_l, qfit_r, qfit_n, qfit_b0, qfit_b1, qcat_i, qcat_r, qcat_n, qcat_l, qroom_0, qroom_c, List.map_cons, List.map_nil, List.sum_cons, List.sum_nil, Nat.reduceAdd, Nat.reduceMul, Nat.reduceLT, Nat.reduceLeDiff, Nat.reduceEqDiff, Nat.reduceSub, decide_true, true_and, and_true, and_self, if_true, if_false, Option.toList_some, Option.toList_none, List.cons_append, List.nil_append, qsL, qlong, List.length_cons, List.length_nil, iN_L, exI, iN_add, iN_mul, iN_le, iN_lt, iN_eq, Nat.le_refl, qfN0, qfN1, uX_16, vX_16, uX_19, vX_19, uX_27, vX_27, uX_30, vX_30, uX_39, vX_39, uX_41, vX_41, uX_43, vX_43, uX_46, vX_46, uX_50, vX_50, uX_53, vX_53, u16', ult', uF', g0', g1', g2', g3', g4', g5', g6']
end XWHERE

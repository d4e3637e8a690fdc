/-! ===== THE CLASS: inside, turnsOf, place ===== -/
section XINSIDE
variable {d n lim : Nat} {h : qH} {A : List Nat} {bs : List bdy} {sa : Nat → Nat}
theorem fct_bits {i : Nat} (P : SoP (dmn bs i) (cnr bs i) (cel bs i)) : ∀ x, x ∈ fct bs i → ∀ c, x.testBit c = true → c < (cnr bs i).length := fun x hx c hc => by
  obtain ⟨t, ht, et⟩ := mem_getD0 hx
  rw [← et] at hc
  exact lt_bit (P.2.2.2.2.2.2.2 (dmn bs i - 1) (by have := P.1; omega) t ht) hc
theorem dul_cos {j : Nat} : dulL bs j = cosL (cnr bs j).length (fct bs j) := rfl
set_option maxRecDepth 100000 in
set_option maxHeartbeats 32000000 in
theorem x_inside {x y : Int32} (s : ShX h) (X : BsX h bs sa) : ∃ h', (∀ R, qMC (d + 25) 151 [.ref 16, .int x, .int y] h R ↔ R = (some (.int (twoR bs (dulI bs) x y)), h')) ∧ ChX [31, 32, 33, 34, 35, 36, 37, 38] [(30, 1), (30, 2), (30, 5), (30, 6)] 0 h h' := by
  have b24 := X.1
  by_cases hx : isB bs x
  · by_cases hy : isB bs y
    · obtain ⟨i, hi', rfl⟩ := hx
      obtain ⟨j, hj', rfl⟩ := hy
      rw [twoR_at X.1 hi' hj']
      have bx : ∀ R, qMC (d + 24) 179 [.ref 16, .int (iN i)] h R ↔ R = (some (.ref (sa i)), h) := fun R => x_bodyAt1 s X hi'
      have by' : ∀ R, qMC (d + 24) 179 [.ref 16, .int (iN j)] h R ↔ R = (some (.ref (sa j)), h) := fun R => x_bodyAt1 s X hj'
      obtain ⟨p, q, w, e, B, S, P⟩ := X.at hi'
      obtain ⟨p', q', w', e', B', S', P'⟩ := X.at hj'
      obtain ⟨⟨u16, ult, uF⟩, g0, g1, g2, g3, g4, g5, g6⟩ := S.obj
      obtain ⟨⟨u16', ult', uF'⟩, g0', g1', g2', g3', g4', g5', g6'⟩ := S'.obj
      have D1 := P.1
      have D2 := P'.1
      have n16 := P.2.1.2
      have fl := P'.fl
      have cj : ∀ R, qMC (d + 24) 108 [.ref (sa j)] h R ↔ R = (some (.int (iN (fct bs j).length)), h) := fun R => x_facetCount S' P'.1
      by_cases z : dmn bs i = dmn bs j
      · by_cases z2 : (fct bs j).length ≤ 16
        · obtain ⟨h1, r1, c1, v1⟩ := x_fromCorners (d := d + 21) s S' P' z2
          have s1 := c1.sh
          have S1 := S.kp (kpS.of c1 (by decide)) P
          have fi : ∀ R, qMC (d + 24) 107 [.ref (sa i)] h1 R ↔ R = (some (.ref (B (dmn bs i - 1))), h1) := fun R => x_facetSets S1 P.1
          obtain ⟨⟨okj, soj⟩, -⟩ := X.2.2.2 j hj'
          obtain ⟨dn, dp⟩ := dul_ok okj soj P'.2.1.2
          obtain ⟨h2, r2, c2⟩ := x_onto (d := d) s1 S1 P v1 (fun x hx => (dp x hx).1) dn (lim := 1) ⟨by decide, by decide⟩
          obtain ⟨⟨v16, vlt, vF⟩, -, n1', -⟩ := S1.obj
          refine ⟨h2, fun R => ?_, (c1.mono (by decide) (by decide) (Nat.le_refl _)).trans0 (c2.mono (by decide) (by decide) (Nat.le_refl _))⟩
          have ev : dulI bs i j = iN (if (cnr bs i).length = (cel bs j (dmn bs j - 1)).length ∧ (fct bs i).length = (cosL (cnr bs j).length (cel bs j (dmn bs j - 1))).length then capN 1 (rnT (cel bs j (dmn bs j - 1)).length (cosL (cnr bs j).length (cel bs j (dmn bs j - 1))) (fct bs i)) else 0) := by
            rw [cap_fit]
            unfold dulI
            by_cases y : (cnr bs i).length = (cel bs j (dmn bs j - 1)).length ∧ (fct bs i).length = (cosL (cnr bs j).length (cel bs j (dmn bs j - 1))).length
            · have y2 := y.2
              rw [cos_len] at y2
              rw [if_pos y, if_pos ⟨z, y.1, y2⟩]
              have := rn_sym2 (n := (cnr bs i).length) (A := fct bs i) (B := dulL bs j) (fct_bits P) (fun x hx c hc => by
                have := (dp x hx).2
                rw [y.1]; exact lt_bit this hc) fct_nodup dn (by rw [dul_len]; exact y2.symm)
              rw [this, ← y.1]
              rfl
            · rw [if_neg y, if_neg fun y' => y ⟨y'.2.1, by rw [cos_len]; exact y'.2.2⟩]
          rw [ev]
          simp (disch := first | assumption | omega) only [e151_0, e151_1, e151_2, e151_5, e151_6, e151_7, e151_8, e151_11, e151_13, e151_14, e151_14N, e151_17, e151_19, e151_19N, e151_22, e151_25, e151_26, e151_27, e151_30, e151_32, e151_35, e151_38, e151_40, e151_43, e151_45, e151_48, e151_49, e151_50, e151_51, e151_54, e151_56, e151_59, e151_60, e151_63, e151_64, e151_67, e151_68, e151_71, e151_72, e151_75, m151, ↓reduceIte, qg_0, qg_1, qg_2, qg_3, qg_4, qg_5, qg_6, qg_7, qg_8, qg_9, qg_10, qg_11, qg_12, qg_13, not_true_eq_false, not_false_eq_true, Nat.reduceBEq, Bool.false_eq_true, ex1, ex3, ex4, exF, qfit_i, qfit_l, qfit_r, qfit_n, qfit_b0, qfit_b1, qcat_i, qcat_r, qcat_n, qcat_l, qroom_0, qroom_c, List.map_cons, List.map_nil, List.sum_cons, List.sum_nil, Nat.reduceAdd, Nat.reduceMul, Nat.reduceLT, Nat.reduceLeDiff, Nat.reduceEqDiff, Nat.reduceSub, decide_true, true_and, and_true, and_self, if_true, if_false, Option.toList_some, Option.toList_none, List.cons_append, List.nil_append, qsL, qlong, List.length_cons, List.length_nil, iN_L, exI, iN_add, iN_mul, iN_le, iN_lt, iN_eq, Nat.le_refl, qfN0, qfN1, uX_16, vX_16, uX_19, vX_19, uX_27, vX_27, uX_30, vX_30, uX_39, vX_39, uX_41, vX_41, uX_43, vX_43, uX_46, vX_46, uX_50, vX_50, uX_53, vX_53, bx, by', u16', ult', uF', v16, vlt, vF, g0, g0', eq_true z, cj, z2, gX_16_6, r1, gX_16_6 s1, n1', fi, r2]
        · refine ⟨h, fun R => ?_, ChX.refl s⟩
          unfold dulI
          rw [if_neg fun y => by have := y.2.1; omega]
          simp (disch := first | assumption | omega) only [e151_0, e151_1, e151_2, e151_5, e151_6, e151_7, e151_8, e151_11, e151_13, e151_14, e151_14N, e151_17, e151_19, e151_19N, e151_22, e151_25, e151_26, e151_27, e151_30, e151_32, e151_35, e151_38, e151_40, e151_43, e151_45, e151_48, e151_49, e151_50, e151_51, e151_54, e151_56, e151_59, e151_60, e151_63, e151_64, e151_67, e151_68, e151_71, e151_72, e151_75, m151, ↓reduceIte, qg_0, qg_1, qg_2, qg_3, qg_4, qg_5, qg_6, qg_7, qg_8, qg_9, qg_10, qg_11, qg_12, qg_13, not_true_eq_false, not_false_eq_true, Nat.reduceBEq, Bool.false_eq_true, ex1, ex3, ex4, exF, qfit_i, qfit_l, qfit_r, qfit_n, qfit_b0, qfit_b1, qcat_i, qcat_r, qcat_n, qcat_l, qroom_0, qroom_c, List.map_cons, List.map_nil, List.sum_cons, List.sum_nil, Nat.reduceAdd, Nat.reduceMul, Nat.reduceLT, Nat.reduceLeDiff, Nat.reduceEqDiff, Nat.reduceSub, decide_true, true_and, and_true, and_self, if_true, if_false, Option.toList_some, Option.toList_none, List.cons_append, List.nil_append, qsL, qlong, List.length_cons, List.length_nil, iN_L, exI, iN_add, iN_mul, iN_le, iN_lt, iN_eq, Nat.le_refl, qfN0, qfN1, uX_16, vX_16, uX_19, vX_19, uX_27, vX_27, uX_30, vX_30, uX_39, vX_39, uX_41, vX_41, uX_43, vX_43, uX_46, vX_46, uX_50, vX_50, uX_53, vX_53, bx, by', u16', ult', uF', g0, g0', eq_true z, cj, z2]
      · refine ⟨h, fun R => ?_, ChX.refl s⟩
        unfold dulI
        rw [if_neg fun y => z y.1]
        simp (disch := first | assumption | omega) only [e151_0, e151_1, e151_2, e151_5, e151_6, e151_7, e151_8, e151_11, e151_13, e151_14, e151_14N, e151_17, e151_19, e151_19N, e151_22, e151_25, e151_26, e151_27, e151_30, e151_32, e151_35, e151_38, e151_40, e151_43, e151_45, e151_48, e151_49, e151_50, e151_51, e151_54, e151_56, e151_59, e151_60, e151_63, e151_64, e151_67, e151_68, e151_71, e151_72, e151_75, m151, ↓reduceIte, qg_0, qg_1, qg_2, qg_3, qg_4, qg_5, qg_6, qg_7, qg_8, qg_9, qg_10, qg_11, qg_12, qg_13, not_true_eq_false, not_false_eq_true, Nat.reduceBEq, Bool.false_eq_true, ex1, ex3, ex4, exF, qfit_i, qfit_l, qfit_r, qfit_n, qfit_b0, qfit_b1, qcat_i, qcat_r, qcat_n, qcat_l, qroom_0, qroom_c, List.map_cons, List.map_nil, List.sum_cons, List.sum_nil, Nat.reduceAdd, Nat.reduceMul, Nat.reduceLT, Nat.reduceLeDiff, Nat.reduceEqDiff, Nat.reduceSub, decide_true, true_and, and_true, and_self, if_true, if_false, Option.toList_some, Option.toList_none, List.cons_append, List.nil_append, qsL, qlong, List.length_cons, List.length_nil, iN_L, exI, iN_add, iN_mul, iN_le, iN_lt, iN_eq, Nat.le_refl, qfN0, qfN1, uX_16, vX_16, uX_19, vX_19, uX_27, vX_27, uX_30, vX_30, uX_39, vX_39, uX_41, vX_41, uX_43, vX_43, uX_46, vX_46, uX_50, vX_50, uX_53, vX_53, bx, by', g0, g0', z]
    · refine ⟨h, fun R => ?_, ChX.refl s⟩
      rw [twoR_no fun z => hy z.2]
      obtain ⟨i, hi', rfl⟩ := hx
      have bx : ∀ R, qMC (d + 24) 179 [.ref 16, .int (iN i)] h R ↔ R = (some (.ref (sa i)), h) := fun R => x_bodyAt1 s X hi'
      have by' : ∀ R, qMC (d + 24) 179 [.ref 16, .int y] h R ↔ R = (some .null, h) := fun R => x_bodyAt0 s X hy
      simp (disch := first | assumption | omega) only [e151_0, e151_1, e151_2, e151_5, e151_6, e151_7, e151_8, e151_11, e151_13, e151_14, e151_14N, e151_17, e151_19, e151_19N, e151_22, e151_25, e151_26, e151_27, e151_30, e151_32, e151_35, e151_38, e151_40, e151_43, e151_45, e151_48, e151_49, e151_50, e151_51, e151_54, e151_56, e151_59, e151_60, e151_63, e151_64, e151_67, e151_68, e151_71, e151_72, e151_75, m151, ↓reduceIte, qg_0, qg_1, qg_2, qg_3, qg_4, qg_5, qg_6, qg_7, qg_8, qg_9, qg_10, qg_11, qg_12, qg_13, not_true_eq_false, not_false_eq_true, Nat.reduceBEq, Bool.false_eq_true, ex1, ex3, ex4, exF, qfit_i, qfit_l, qfit_r, qfit_n, qfit_b0, qfit_b1, qcat_i, qcat_r, qcat_n, qcat_l, qroom_0, qroom_c, List.map_cons, List.map_nil, List.sum_cons, List.sum_nil, Nat.reduceAdd, Nat.reduceMul, Nat.reduceLT, Nat.reduceLeDiff, Nat.reduceEqDiff, Nat.reduceSub, decide_true, true_and, and_true, and_self, if_true, if_false, Option.toList_some, Option.toList_none, List.cons_append, List.nil_append, qsL, qlong, List.length_cons, List.length_nil, iN_L, exI, iN_add, iN_mul, iN_le, iN_lt, iN_eq, Nat.le_refl, qfN0, qfN1, uX_16, vX_16, uX_19, vX_19, uX_27, vX_27, uX_30, vX_30, uX_39, vX_39, uX_41, vX_41, uX_43, vX_43, uX_46, vX_46, uX_50, vX_50, uX_53, vX_53, bx, by']
  · refine ⟨h, fun R => ?_, ChX.refl s⟩
    rw [twoR_no fun z => hx z.1]
    have bx : ∀ R, qMC (d + 24) 179 [.ref 16, .int x] h R ↔ R = (some .null, h) := fun R => x_bodyAt0 s X hx
    by_cases hy : isB bs y
    · obtain ⟨j, hj', rfl⟩ := hy
      have by' : ∀ R, qMC (d + 24) 179 [.ref 16, .int (iN j)] h R ↔ R = (some (.ref (sa j)), h) := fun R => x_bodyAt1 s X hj'
      simp (disch := first | assumption | omega) only [e151_0, e151_1, e151_2, e151_5, e151_6, e151_7, e151_8, e151_11, e151_13, e151_14, e151_14N, e151_17, e151_19, e151_19N, e151_22, e151_25, e151_26, e151_27, e151_30, e151_32, e151_35, e151_38, e151_40, e151_43, e151_45, e151_48, e151_49, e151_50, e151_51, e151_54, e151_56, e151_59, e151_60, e151_63, e151_64, e151_67, e151_68, e151_71, e151_72, e151_75, m151, ↓reduceIte, qg_0, qg_1, qg_2, qg_3, qg_4, qg_5, qg_6, qg_7, qg_8, qg_9, qg_10, qg_11, qg_12, qg_13, not_true_eq_false, not_false_eq_true, Nat.reduceBEq, Bool.false_eq_true, ex1, ex3, ex4, exF, qfit_i, qfit_l, qfit_r, qfit_n, qfit_b0, qfit_b1, qcat_i, qcat_r, qcat_n, qcat_l, qroom_0, qroom_c, List.map_cons, List.map_nil, List.sum_cons, List.sum_nil, Nat.reduceAdd, Nat.reduceMul, Nat.reduceLT, Nat.reduceLeDiff, Nat.reduceEqDiff, Nat.reduceSub, decide_true, true_and, and_true, and_self, if_true, if_false, Option.toList_some, Option.toList_none, List.cons_append, List.nil_append, qsL, qlong, List.length_cons, List.length_nil, iN_L, exI, iN_add, iN_mul, iN_le, iN_lt, iN_eq, Nat.le_refl, qfN0, qfN1, uX_16, vX_16, uX_19, vX_19, uX_27, vX_27, uX_30, vX_30, uX_39, vX_39, uX_41, vX_41, uX_43, vX_43, uX_46, vX_46, uX_50, vX_50, uX_53, vX_53, bx, by']
    · have by' : ∀ R, qMC (d + 24) 179 [.ref 16, .int y] h R ↔ R = (some .null, h) := fun R => x_bodyAt0 s X hy
      simp (disch := first | assumption | omega) only [e151_0, e151_1, e151_2, e151_5, e151_6, e151_7, e151_8, e151_11, e151_13, e151_14, e151_14N, e151_17, e151_19, e151_19N, e151_22, e151_25, e151_26, e151_27, e151_30, e151_32, e151_35, e151_38, e151_40, e151_43, e151_45, e151_48, e151_49, e151_50, e151_51, e151_54, e151_56, e151_59, e151_60, e151_63, e151_64, e151_67, e151_68, e151_71, e151_72, e151_75, m151, ↓reduceIte, qg_0, qg_1, qg_2, qg_3, qg_4, qg_5, qg_6, qg_7, qg_8, qg_9, qg_10, qg_11, qg_12, qg_13, not_true_eq_false, not_false_eq_true, Nat.reduceBEq, Bool.false_eq_true, ex1, ex3, ex4, exF, qfit_i, qfit_l, qfit_r, qfit_n, qfit_b0, qfit_b1, qcat_i, qcat_r, qcat_n, qcat_l, qroom_0, qroom_c, List.map_cons, List.map_nil, List.sum_cons, List.sum_nil, Nat.reduceAdd, Nat.reduceMul, Nat.reduceLT, Nat.reduceLeDiff, Nat.reduceEqDiff, Nat.reduceSub, decide_true, true_and, and_true, and_self, if_true, if_false, Option.toList_some, Option.toList_none, List.cons_append, List.nil_append, qsL, qlong, List.length_cons, List.length_nil, iN_L, exI, iN_add, iN_mul, iN_le, iN_lt, iN_eq, Nat.le_refl, qfN0, qfN1, uX_16, vX_16, uX_19, vX_19, uX_27, vX_27, uX_30, vX_30, uX_39, vX_39, uX_41, vX_41, uX_43, vX_43, uX_46, vX_46, uX_50, vX_50, uX_53, vX_53, bx, by']
theorem FnX.ch97 {A : List Nat} {J : List (Nat × Nat)} {k : Nat} {h' : qH} (fn : FnX h) (c : ChX A J k h h') (j4 : (43, 4) ∉ J) (hA : ∀ x ∈ A, x < 97) : FnX h' := by
  have e := c.hf (b := 43) (j := 4) (by decide) j4
  rcases fn with z | ⟨f, f1, f2, f3⟩
  · exact Or.inl (e.trans z)
  · exact Or.inr ⟨f, e.trans f1, f2, f3.sm c.1.2.1 (c.at (fun z => by have := hA f z; omega) (XO_97 f2) f3.1.2.2)⟩
set_option maxRecDepth 100000 in
set_option maxHeartbeats 32000000 in
theorem x_turnsOf {i : Nat} (s : ShX h) (X : BsX h bs sa) (fn : FnX h) (hi' : i < bs.length) (ht : trnN bs i < 100000) : ∃ h', (∀ R, qMC (d + 25) 186 [.ref 16, .ref (sa i)] h R ↔ R = (some (.int (trnR bs i)), h')) ∧ ChX (sa i :: [31, 32, 33, 34, 35, 36, 37, 38]) [(30, 1), (30, 2), (30, 5), (30, 6)] 0 h h' ∧ BsX h' bs sa ∧ FnX h' := by
  obtain ⟨-, -, P, ⟨p, q, w, e, B, S, QQ⟩, sl⟩ := X.2.2.2 i hi'
  obtain ⟨⟨u16, ult, uF⟩, g0, g1, g2, g3, g4, g5, g6⟩ := S.obj
  have ka := S.1.1
  have a97 := S.1.2
  have et : trnR bs i = iN (trnN bs i) := by unfold trnR; rw [if_pos ht]
  have nm : ¬ (iN (trnN bs i) = -iN 1) := fun z => by
    have : (iN (trnN bs i)).toInt = (-iN 1).toInt := congrArg _ z
    rw [iN_int (by omega), show (-iN 1).toInt = -1 by decide] at this
    omega
  obtain ⟨sl1, -⟩ := id sl
  rcases sl1 with hn | hn
  rotate_left
  · have g7 : qget h (sa i) 8 7 = some (.int (iN (trnN bs i))) := by rw [gSol ka (by decide), hn, et]
    refine ⟨h, fun R => ?_, ChX.refl s, X, fn⟩
    rw [et]
    simp (disch := first | assumption | omega) only [e186_0, e186_1, e186_4, e186_5, e186_8, e186_9, e186_12, e186_13, e186_16, e186_17, e186_20, e186_21, e186_24, e186_27, e186_28, e186_29, e186_32, e186_33, e186_36, e186_37, e186_40, e186_43, e186_46, e186_49, e186_50, e186_53, m186, ↓reduceIte, qg_0, qg_1, qg_2, qg_3, qg_4, qg_5, qg_6, qg_7, qg_8, qg_9, qg_10, qg_11, qg_12, qg_13, not_true_eq_false, not_false_eq_true, Nat.reduceBEq, Bool.false_eq_true, ex1, ex3, ex4, exF, qfit_i, qfit_l, qfit_r, qfit_n, qfit_b0, qfit_b1, qcat_i, qcat_r, qcat_n, qcat_l, qroom_0, qroom_c, List.map_cons, List.map_nil, List.sum_cons, List.sum_nil, Nat.reduceAdd, Nat.reduceMul, Nat.reduceLT, Nat.reduceLeDiff, Nat.reduceEqDiff, Nat.reduceSub, decide_true, true_and, and_true, and_self, if_true, if_false, Option.toList_some, Option.toList_none, List.cons_append, List.nil_append, qsL, qlong, List.length_cons, List.length_nil, iN_L, exI, iN_add, iN_mul, iN_le, iN_lt, iN_eq, Nat.le_refl, qfN0, qfN1, uX_16, vX_16, uX_19, vX_19, uX_27, vX_27, uX_30, vX_30, uX_39, vX_39, uX_41, vX_41, uX_43, vX_43, uX_46, vX_46, uX_50, vX_50, uX_53, vX_53, g7, nm]
  have g7 : qget h (sa i) 8 7 = some (.int (-iN 1)) := by rw [gSol ka (by decide), hn]; rfl
  have fi : ∀ R, qMC (d + 24) 107 [.ref (sa i)] h R ↔ R = (some (.ref (B (dmn bs i - 1))), h) := fun R => x_facetSets S P.1
  have ci : ∀ R, qMC (d + 24) 108 [.ref (sa i)] h R ↔ R = (some (.int (iN (fct bs i).length)), h) := fun R => x_facetCount S P.1
  obtain ⟨h1, r1, c1, v1⟩ := x_fromB (d := d + 22) s X hi' S P
  have s1 := c1.sh
  have S1 := S.kp (kpS.of c1 (by decide)) P
  have fj : ∀ R, qMC (d + 24) 107 [.ref (sa i)] h1 R ↔ R = (some (.ref (B (dmn bs i - 1))), h1) := fun R => x_facetSets S1 P.1
  obtain ⟨h2, r2, c2⟩ := x_onto (d := d) s1 S1 P v1 (fct_pos P) fct_nodup (lim := 1000000) ⟨by decide, by decide⟩
  obtain ⟨⟨v16, vlt, vF⟩, -, n1', -⟩ := S1.obj
  have c3 : ChX [31, 32, 33, 34, 35, 36, 37, 38] [(30, 1), (30, 2), (30, 5), (30, 6)] 0 h h2 := (c1.mono (by decide) (by decide) (Nat.le_refl _)).trans0 (c2.mono (by decide) (by decide) (Nat.le_refl _))
  have s2 := c3.sh
  have X2 := X.ch s c3 (by decide) (by decide) (by decide)
  have S2 := S.kp (kpS.of c3 (by decide)) P
  have ka2 := S2.1.1
  have fn2 := fn.ch97 c3 (by decide) (by decide)
  rw [if_pos ⟨rfl, rfl⟩, show capN 1000000 (rnT (cnr bs i).length (fct bs i) (fct bs i)) = trnN bs i by unfold capN trnN at *; rw [if_pos (by omega)]] at r2
  obtain ⟨h3, e3⟩ : ∃ h3, h3 = xV h2 (sa i) 7 (.int (iN (trnN bs i))) := ⟨_, rfl⟩
  have c4 : ChX [sa i] [(30, 1), (30, 2), (30, 5), (30, 6)] 0 h2 h3 := by rw [e3]; exact ChX.sol s2 ka2 a97 (by simp)
  have p3 : qput h2 (sa i) 8 7 (.int (iN (trnN bs i))) = some h3 := by rw [e3]; exact pSol ka2 (by decide)
  have ka3 : kO h3 (sa i) 8 := by rw [e3]; exact kO_xV ka2 ka2
  have hf3 : ∀ j, j ≠ 7 → hf h3 (sa i) j = hf h2 (sa i) j := fun j hj => by rw [e3, hf_xV, if_neg (fun z => hj z.2)]
  have hf7 : hf h3 (sa i) 7 = .int (iN (trnN bs i)) := by rw [e3, hf_xV, if_pos ⟨rfl, rfl⟩]
  have g73 : qget h3 (sa i) 8 7 = some (.int (iN (trnN bs i))) := by rw [gSol ka3 (by decide), hf7]
  have hA : ∀ x ∈ [sa i], 97 ≤ x ∧ (x < h2.2.1 → x = sa i) := fun x hx => by rw [List.mem_singleton] at hx; rw [hx]; exact ⟨a97, fun _ => rfl⟩
  have ks := kpS.late c4 hA ka2 ka3 (fun j hj => hf3 j (by omega))
  obtain ⟨-, -, -, -, -, sl2, l0, sl3, sl4⟩ := X2.2.2.2 i hi'
  have sl' : SoL h3 (sa i) bs i := ⟨Or.inr (by rw [hf7, et]), by rw [hf3 8 (by decide)]; exact sl2.kp ks, l0, by rw [hf3 9 (by decide)]; exact sl3, by rw [hf3 9 (by decide)]; exact sl4.kp ks⟩
  refine ⟨h3, fun R => ?_, (c3.mono (fun x hx => List.mem_cons_of_mem _ hx) (fun _ z => z) (Nat.le_refl _)).trans0 (c4.mono (fun x hx => by rw [List.mem_singleton] at hx; rw [hx]; exact List.mem_cons_self) (fun _ z => z) (Nat.le_refl _)), X2.late s2 c4 hi' hA (by decide) ka3 (fun j hj => hf3 j (by omega)) sl', fn2.ch c4 (by decide) fun x hx hl k => by rw [List.mem_singleton] at hx; rw [hx] at k; exact kO_kI ka2 k⟩
  rw [et]
  simp (disch := first | assumption | omega) only [e186_0, e186_1, e186_4, e186_5, e186_8, e186_9, e186_12, e186_13, e186_16, e186_17, e186_20, e186_21, e186_24, e186_27, e186_28, e186_29, e186_32, e186_33, e186_36, e186_37, e186_40, e186_43, e186_46, e186_49, e186_50, e186_53, m186, ↓reduceIte, qg_0, qg_1, qg_2, qg_3, qg_4, qg_5, qg_6, qg_7, qg_8, qg_9, qg_10, qg_11, qg_12, qg_13, not_true_eq_false, not_false_eq_true, Nat.reduceBEq, Bool.false_eq_true, ex1, ex3, ex4, exF, qfit_i, qfit_l, qfit_r, qfit_n, qfit_b0, qfit_b1, qcat_i, qcat_r, qcat_n, qcat_l, qroom_0, qroom_c, List.map_cons, List.map_nil, List.sum_cons, List.sum_nil, Nat.reduceAdd, Nat.reduceMul, Nat.reduceLT, Nat.reduceLeDiff, Nat.reduceEqDiff, Nat.reduceSub, decide_true, true_and, and_true, and_self, if_true, if_false, Option.toList_some, Option.toList_none, List.cons_append, List.nil_append, qsL, qlong, List.length_cons, List.length_nil, iN_L, exI, iN_add, iN_mul, iN_le, iN_lt, iN_eq, Nat.le_refl, qfN0, qfN1, uX_16, vX_16, uX_19, vX_19, uX_27, vX_27, uX_30, vX_30, uX_39, vX_39, uX_41, vX_41, uX_43, vX_43, uX_46, vX_46, uX_50, vX_50, uX_53, vX_53, g7, gX_16_6, u16, ult, uF, v16, vlt, vF, g1, fi, ci, r1, gX_16_6 s1, n1', fj, r2, p3, g73]
variable {ss : List Nat}
set_option maxRecDepth 100000 in
set_option maxHeartbeats 32000000 in
theorem x_place {x v : Int32} (s : ShX h) (X : BsX h bs sa) (pv : PaX h n ss) (nd : ss.Nodup) (hv : plcR bs n ss x v) : ∃ h', (∀ R, qMC (d + 25) 154 [.ref 16, .int x] h R ↔ R = (some (.int v), h')) ∧ ChX [31, 32, 33, 34, 35, 36, 37, 38] [(30, 1), (30, 2), (30, 5), (30, 6)] 0 h h' := by
  have b24 := X.1
  have n12 := pv.1
  have l24 := pv.2.1
  rcases hv with ⟨hx, rfl⟩ | ⟨D, ⟨hD, rfl⟩, hv⟩
  · have dm : ∀ R, qMC (d + 24) 176 [.int x] h R ↔ R = (some (.int (iN 0)), h) := fun R => x_isDim0 hx
    refine ⟨h, fun R => ?_, ChX.refl s⟩
    simp (disch := first | assumption | omega) only [e154_0, e154_1, e154_4, e154_7, e154_10, e154_11, e154_12, e154_15, e154_18, e154_19, e154_22, e154_25, e154_26, e154_27, e154_30, e154_31, e154_34, e154_35, e154_36, e154_39, e154_40, e154_41, e154_42, e154_44, e154_45, e154_48, e154_51, e154_52, e154_53, e154_56, e154_58, e154_60, e154_60N, e154_63, e154_65, e154_68, e154_69, e154_72, e154_73, e154_76, e154_77, e154_80, e154_83, e154_84, e154_87, e154_90, e154_91, e154_94, e154_97, e154_100, e154_101, e154_104, e154_106, e154_109, e154_111, e154_114, e154_115, e154_118, e154_119, e154_122, e154_124, e154_125, e154_126, e154_127, e154_130, e154_133, e154_134, m154, ↓reduceIte, qg_0, qg_1, qg_2, qg_3, qg_4, qg_5, qg_6, qg_7, qg_8, qg_9, qg_10, qg_11, qg_12, qg_13, not_true_eq_false, not_false_eq_true, Nat.reduceBEq, Bool.false_eq_true, ex1, ex3, ex4, exF, qfit_i, qfit_l, qfit_r, qfit_n, qfit_b0, qfit_b1, qcat_i, qcat_r, qcat_n, qcat_l, qroom_0, qroom_c, List.map_cons, List.map_nil, List.sum_cons, List.sum_nil, Nat.reduceAdd, Nat.reduceMul, Nat.reduceLT, Nat.reduceLeDiff, Nat.reduceEqDiff, Nat.reduceSub, decide_true, true_and, and_true, and_self, if_true, if_false, Option.toList_some, Option.toList_none, List.cons_append, List.nil_append, qsL, qlong, List.length_cons, List.length_nil, iN_L, exI, iN_add, iN_mul, iN_le, iN_lt, iN_eq, Nat.le_refl, qfN0, qfN1, uX_16, vX_16, uX_19, vX_19, uX_27, vX_27, uX_30, vX_30, uX_39, vX_39, uX_41, vX_41, uX_43, vX_43, uX_46, vX_46, uX_50, vX_50, uX_53, vX_53, dm]
  · have dm : ∀ R, qMC (d + 24) 176 [.int (iN D)] h R ↔ R = (some (.int (iN 1)), h) := fun R => x_isDim1 hD
    have sz : ∀ R, qMC (d + 24) 61 [.ref 39] h R ↔ R = (some (.int (iN (pzS ss))), h) := fun R => x_setSize s pv R
    have pz := pzS_le (ss := ss)
    rcases hv with ⟨hs, rfl⟩ | ⟨⟨hl, hp⟩, hv⟩
    · have ne : ¬ pzS ss = D := by
        unfold pzS
        by_cases z : ss.length = 0
        · rw [if_pos z]; omega
        · rw [if_neg z]
          rcases hs with y | y
          · exact absurd y z
          · exact y
      refine ⟨h, fun R => ?_, ChX.refl s⟩
      simp (disch := first | assumption | omega) only [e154_0, e154_1, e154_4, e154_7, e154_10, e154_11, e154_12, e154_15, e154_18, e154_19, e154_22, e154_25, e154_26, e154_27, e154_30, e154_31, e154_34, e154_35, e154_36, e154_39, e154_40, e154_41, e154_42, e154_44, e154_45, e154_48, e154_51, e154_52, e154_53, e154_56, e154_58, e154_60, e154_60N, e154_63, e154_65, e154_68, e154_69, e154_72, e154_73, e154_76, e154_77, e154_80, e154_83, e154_84, e154_87, e154_90, e154_91, e154_94, e154_97, e154_100, e154_101, e154_104, e154_106, e154_109, e154_111, e154_114, e154_115, e154_118, e154_119, e154_122, e154_124, e154_125, e154_126, e154_127, e154_130, e154_133, e154_134, m154, ↓reduceIte, qg_0, qg_1, qg_2, qg_3, qg_4, qg_5, qg_6, qg_7, qg_8, qg_9, qg_10, qg_11, qg_12, qg_13, not_true_eq_false, not_false_eq_true, Nat.reduceBEq, Bool.false_eq_true, ex1, ex3, ex4, exF, qfit_i, qfit_l, qfit_r, qfit_n, qfit_b0, qfit_b1, qcat_i, qcat_r, qcat_n, qcat_l, qroom_0, qroom_c, List.map_cons, List.map_nil, List.sum_cons, List.sum_nil, Nat.reduceAdd, Nat.reduceMul, Nat.reduceLT, Nat.reduceLeDiff, Nat.reduceEqDiff, Nat.reduceSub, decide_true, true_and, and_true, and_self, if_true, if_false, Option.toList_some, Option.toList_none, List.cons_append, List.nil_append, qsL, qlong, List.length_cons, List.length_nil, iN_L, exI, iN_add, iN_mul, iN_le, iN_lt, iN_eq, Nat.le_refl, qfN0, qfN1, uX_16, vX_16, uX_19, vX_19, uX_27, vX_27, uX_30, vX_30, uX_39, vX_39, uX_41, vX_41, uX_43, vX_43, uX_46, vX_46, uX_50, vX_50, uX_53, vX_53, dm, iN10, gX_16_7, sz, ne]
    · have eq : pzS ss = D := by unfold pzS; rw [if_neg (by omega)]; exact hp
      rw [eq] at sz
      have bk : ∀ R, qMC (d + 24) 64 [.ref 39, .int (iN D)] h R ↔ R = (some (.int (iN (brkN n ss D))), h) := fun R => x_firstBroken s pv hD hl R
      have no : ∀ k, 0 < k → k ≤ 4 → brkN n ss D = k → v = iN k → ∃ h', (∀ R, qMC (d + 25) 154 [.ref 16, .int (iN D)] h R ↔ R = (some (.int v), h')) ∧ ChX [31, 32, 33, 34, 35, 36, 37, 38] [(30, 1), (30, 2), (30, 5), (30, 6)] 0 h h' := fun k k0 k4 ek ev => by
        rw [ek] at bk
        refine ⟨h, fun R => ?_, ChX.refl s⟩
        rw [ev]
        simp (disch := first | assumption | omega) only [e154_0, e154_1, e154_4, e154_7, e154_10, e154_11, e154_12, e154_15, e154_18, e154_19, e154_22, e154_25, e154_26, e154_27, e154_30, e154_31, e154_34, e154_35, e154_36, e154_39, e154_40, e154_41, e154_42, e154_44, e154_45, e154_48, e154_51, e154_52, e154_53, e154_56, e154_58, e154_60, e154_60N, e154_63, e154_65, e154_68, e154_69, e154_72, e154_73, e154_76, e154_77, e154_80, e154_83, e154_84, e154_87, e154_90, e154_91, e154_94, e154_97, e154_100, e154_101, e154_104, e154_106, e154_109, e154_111, e154_114, e154_115, e154_118, e154_119, e154_122, e154_124, e154_125, e154_126, e154_127, e154_130, e154_133, e154_134, m154, ↓reduceIte, qg_0, qg_1, qg_2, qg_3, qg_4, qg_5, qg_6, qg_7, qg_8, qg_9, qg_10, qg_11, qg_12, qg_13, not_true_eq_false, not_false_eq_true, Nat.reduceBEq, Bool.false_eq_true, ex1, ex3, ex4, exF, qfit_i, qfit_l, qfit_r, qfit_n, qfit_b0, qfit_b1, qcat_i, qcat_r, qcat_n, qcat_l, qroom_0, qroom_c, List.map_cons, List.map_nil, List.sum_cons, List.sum_nil, Nat.reduceAdd, Nat.reduceMul, Nat.reduceLT, Nat.reduceLeDiff, Nat.reduceEqDiff, Nat.reduceSub, decide_true, true_and, and_true, and_self, if_true, if_false, Option.toList_some, Option.toList_none, List.cons_append, List.nil_append, qsL, qlong, List.length_cons, List.length_nil, iN_L, exI, iN_add, iN_mul, iN_le, iN_lt, iN_eq, Nat.le_refl, qfN0, qfN1, uX_16, vX_16, uX_19, vX_19, uX_27, vX_27, uX_30, vX_30, uX_39, vX_39, uX_41, vX_41, uX_43, vX_43, uX_46, vX_46, uX_50, vX_50, uX_53, vX_53, dm, iN10, gX_16_7, sz, bk, show ¬ k = 0 by omega]
      rcases hv with ⟨a1, ev⟩ | ⟨a1, hv⟩
      · exact no 1 (by decide) (by decide) (by unfold brkN; rw [if_pos a1]) ev
      have b1 : ¬ allN (fun c => anyN (lyB ss (2 ^ c)) ss.length) n = false := by rw [a1]; decide
      rcases hv with ⟨a2, ev⟩ | ⟨a2, hv⟩
      · exact no 2 (by decide) (by decide) (by unfold brkN; rw [if_neg b1, if_pos a2]) ev
      have b2 : ¬ twB ss n = false := by rw [a2]; decide
      rcases hv with ⟨a3, ev⟩ | ⟨a3, hv⟩
      · exact no 3 (by decide) (by decide) (by unfold brkN; rw [if_neg b1, if_neg b2, if_pos a3]) ev
      have b3 : ¬ jnB ss D = false := by rw [a3]; decide
      rcases hv with ⟨a4, ev⟩ | ⟨a4, hv⟩
      · exact no 4 (by decide) (by decide) (by unfold brkN; rw [if_neg b1, if_neg b2, if_neg b3, if_neg a4]) ev
      have e0 : brkN n ss D = 0 := by unfold brkN; rw [if_neg b1, if_neg b2, if_neg b3, if_pos a4]
      rw [e0] at bk
      have sn : ∀ k, k < ss.length → ss.getD k 0 < 2 ^ n := fun k hk => (pv.2.2.2.2 k hk).2.2
      have loop : ∀ (w' i : Nat) (g : qH) (x4 : Option Value), i + w' = bs.length → ChX [31, 32, 33, 34, 35, 36, 37, 38] [(30, 1), (30, 2), (30, 5), (30, 6)] 0 h g → (∀ j, j < i → hasP bs n ss D j = false) → ∃ h', (∀ R, qEv (d + 24) 0 qk_154 43 [some (.ref 16), some (.int (iN D)), some (.int (iN 0)), some (.int (iN i)), x4] [] g R ↔ R = (some (.int v), h')) ∧ ChX [31, 32, 33, 34, 35, 36, 37, 38] [(30, 1), (30, 2), (30, 5), (30, 6)] 0 h h' := by
        intro w'
        induction w' with
        | zero =>
          intro i g x4 hc cg hall
          have ec : i = bs.length := by omega
          subst ec
          have sg := cg.sh
          have y1 : xi g 16 1 = iN bs.length := (cg.xi (by decide) (by decide)).trans X.2.1
          rcases hv with ⟨k, k1, k2, -⟩ | ⟨-, ev⟩
          · rw [hall k k1] at k2; cases k2
          · refine ⟨g, fun R => ?_, cg⟩
            rw [ev, e154_43]
            simp (disch := first | assumption | omega) only [e154_0, e154_1, e154_4, e154_7, e154_10, e154_11, e154_12, e154_15, e154_18, e154_19, e154_22, e154_25, e154_26, e154_27, e154_30, e154_31, e154_34, e154_35, e154_36, e154_39, e154_40, e154_41, e154_42, e154_44, e154_45, e154_48, e154_51, e154_52, e154_53, e154_56, e154_58, e154_60, e154_60N, e154_63, e154_65, e154_68, e154_69, e154_72, e154_73, e154_76, e154_77, e154_80, e154_83, e154_84, e154_87, e154_90, e154_91, e154_94, e154_97, e154_100, e154_101, e154_104, e154_106, e154_109, e154_111, e154_114, e154_115, e154_118, e154_119, e154_122, e154_124, e154_125, e154_126, e154_127, e154_130, e154_133, e154_134, m154, ↓reduceIte, qg_0, qg_1, qg_2, qg_3, qg_4, qg_5, qg_6, qg_7, qg_8, qg_9, qg_10, qg_11, qg_12, qg_13, not_true_eq_false, not_false_eq_true, Nat.reduceBEq, Bool.false_eq_true, ex1, ex3, ex4, exF, qfit_i, qfit_l, qfit_r, qfit_n, qfit_b0, qfit_b1, qcat_i, qcat_r, qcat_n, qcat_l, qroom_0, qroom_c, List.map_cons, List.map_nil, List.sum_cons, List.sum_nil, Nat.reduceAdd, Nat.reduceMul, Nat.reduceLT, Nat.reduceLeDiff, Nat.reduceEqDiff, Nat.reduceSub, decide_true, true_and, and_true, and_self, if_true, if_false, Option.toList_some, Option.toList_none, List.cons_append, List.nil_append, qsL, qlong, List.length_cons, List.length_nil, iN_L, exI, iN_add, iN_mul, iN_le, iN_lt, iN_eq, Nat.le_refl, qfN0, qfN1, uX_16, vX_16, uX_19, vX_19, uX_27, vX_27, uX_30, vX_30, uX_39, vX_39, uX_41, vX_41, uX_43, vX_43, uX_46, vX_46, uX_50, vX_50, uX_53, vX_53, gX_16_1, y1]
        | succ w' ih =>
          intro i g x4 hc cg hall
          have hi' : i < bs.length := by omega
          have sg := cg.sh
          have Xg := X.ch s cg (by decide) (by decide) (by decide)
          have y1 : xi g 16 1 = iN bs.length := Xg.2.1
          have bx : ∀ R, qMC (d + 24) 179 [.ref 16, .int (iN i)] g R ↔ R = (some (.ref (sa i)), g) := fun R => x_bodyAt1 sg Xg hi'
          obtain ⟨p, q, w, e, B, S, P⟩ := Xg.at hi'
          obtain ⟨⟨u16, ult, uF⟩, g0, g1, g2, g3, g4, g5, g6⟩ := S.obj
          have D1 := P.1
          by_cases z : dmn bs i = D
          · have m0 : xi g 39 0 = iN n := (cg.xi (by decide) (by decide)).trans pv.2.2.1
            have m2 : xi g 39 2 = iN ss.length := (cg.xi (by decide) (by decide)).trans pv.2.2.2.1
            obtain ⟨h1, r1, c1, v1⟩ := x_fromSets (d := d + 22) (fr := 40) (nf := 24) (n := n) (L := ss) sg (kX_40 sg) (by decide) (by omega) ⟨l24, by omega⟩ (by decide) (fun t ht => ⟨by rw [cg.hi (by decide) (by decide) (s.lt (by decide))]; exact (pv.2.2.2.2 t ht).1, sn t ht⟩)
            have s1 := c1.sh
            have S1 := S.kp (kpS.of c1 (by decide)) P
            have fj : ∀ R, qMC (d + 24) 107 [.ref (sa i)] h1 R ↔ R = (some (.ref (B (dmn bs i - 1))), h1) := fun R => x_facetSets S1 P.1
            obtain ⟨h2, r2, c2⟩ := x_onto (d := d) s1 S1 P v1 (fun x hx => by
              obtain ⟨t, ht, et⟩ := mem_getD0 hx
              rw [← et]; exact (pv.2.2.2.2 t ht).2.1) nd (lim := 1) ⟨by decide, by decide⟩
            obtain ⟨⟨v16, vlt, vF⟩, -, n1', -⟩ := S1.obj
            have cg2 : ChX [31, 32, 33, 34, 35, 36, 37, 38] [(30, 1), (30, 2), (30, 5), (30, 6)] 0 h h2 := cg.trans0 ((c1.mono (by decide) (by decide) (Nat.le_refl _)).trans0 (c2.mono (by decide) (by decide) (Nat.le_refl _)))
            rw [cap_fit] at r2
            have hs : ∀ x, x ∈ ss → ∀ c, x.testBit c = true → c < n := fun x hx c hc => by
              obtain ⟨t, ht, et⟩ := mem_getD0 hx
              rw [← et] at hc; exact lt_bit (sn t ht) hc
            have sym : (cnr bs i).length = n → (fct bs i).length = ss.length → fitI n ss (fct bs i) = fitI n (fct bs i) ss := fun y1 y2 => rn_sym2 hs (fun x hx c hc => by rw [← y1]; exact fct_bits P x hx c hc) nd fct_nodup y2
            by_cases hp : hasP bs n ss D i = true
            · have hp' := of_decide_eq_true hp
              have ek : (if (cnr bs i).length = n ∧ (fct bs i).length = ss.length then fitI n ss (fct bs i) else 0) = iN 1 := by
                rw [if_pos ⟨hp'.2.1, hp'.2.2.1⟩, sym hp'.2.1 hp'.2.2.1]
                unfold fitI
                rw [if_pos hp'.2.2.2]; rfl
              rw [ek] at r2
              have ev : v = iN (100 + i) := by
                rcases hv with ⟨k, k1, k2, k3, ev⟩ | ⟨k2, -⟩
                · have : k = i := by
                    rcases Nat.lt_trichotomy k i with y | y | y
                    · rw [hall k y] at k2; cases k2
                    · exact y
                    · rw [k3 i y] at hp; cases hp
                  rw [ev, this]
                · rw [k2 i hi'] at hp; cases hp
              refine ⟨h2, fun R => ?_, cg2⟩
              rw [ev, e154_43]
              simp (disch := first | assumption | omega) only [e154_0, e154_1, e154_4, e154_7, e154_10, e154_11, e154_12, e154_15, e154_18, e154_19, e154_22, e154_25, e154_26, e154_27, e154_30, e154_31, e154_34, e154_35, e154_36, e154_39, e154_40, e154_41, e154_42, e154_44, e154_45, e154_48, e154_51, e154_52, e154_53, e154_56, e154_58, e154_60, e154_60N, e154_63, e154_65, e154_68, e154_69, e154_72, e154_73, e154_76, e154_77, e154_80, e154_83, e154_84, e154_87, e154_90, e154_91, e154_94, e154_97, e154_100, e154_101, e154_104, e154_106, e154_109, e154_111, e154_114, e154_115, e154_118, e154_119, e154_122, e154_124, e154_125, e154_126, e154_127, e154_130, e154_133, e154_134, m154, ↓reduceIte, qg_0, qg_1, qg_2, qg_3, qg_4, qg_5, qg_6, qg_7, qg_8, qg_9, qg_10, qg_11, qg_12, qg_13, not_true_eq_false, not_false_eq_true, Nat.reduceBEq, Bool.false_eq_true, ex1, ex3, ex4, exF, qfit_i, qfit_l, qfit_r, qfit_n, qfit_b0, qfit_b1, qcat_i, qcat_r, qcat_n, qcat_l, qroom_0, qroom_c, List.map_cons, List.map_nil, List.sum_cons, List.sum_nil, Nat.reduceAdd, Nat.reduceMul, Nat.reduceLT, Nat.reduceLeDiff, Nat.reduceEqDiff, Nat.reduceSub, decide_true, true_and, and_true, and_self, if_true, if_false, Option.toList_some, Option.toList_none, List.cons_append, List.nil_append, qsL, qlong, List.length_cons, List.length_nil, iN_L, exI, iN_add, iN_mul, iN_le, iN_lt, iN_eq, Nat.le_refl, qfN0, qfN1, uX_16, vX_16, uX_19, vX_19, uX_27, vX_27, uX_30, vX_30, uX_39, vX_39, uX_41, vX_41, uX_43, vX_43, uX_46, vX_46, uX_50, vX_50, uX_53, vX_53, gX_16_1, y1, show ¬ bs.length ≤ i by omega, bx, g0, eq_true z, gX_16_6, gX_16_7, gX_39_0, gX_39_1, gX_39_2, m0, m2, r1, gX_16_6 s1, v16, vlt, vF, n1', fj, r2]
            · have hp' : hasP bs n ss D i = false := by cases y : hasP bs n ss D i with | true => exact absurd y hp | false => rfl
              have ek : (if (cnr bs i).length = n ∧ (fct bs i).length = ss.length then fitI n ss (fct bs i) else 0) = iN 0 := by
                by_cases y : (cnr bs i).length = n ∧ (fct bs i).length = ss.length
                · rw [if_pos y, sym y.1 y.2]
                  unfold fitI
                  rw [if_neg fun y' => of_decide_eq_false hp' ⟨z, y.1, y.2, y'⟩]; rfl
                · rw [if_neg y]; rfl
              rw [ek] at r2
              obtain ⟨h', r', c'⟩ := ih (i + 1) h2 (some (.ref (sa i))) (by omega) cg2 (fun j hj => by
                rcases Nat.lt_or_ge j i with y | y
                · exact hall j y
                · rw [show j = i by omega]; exact hp')
              refine ⟨h', fun R => ?_, c'⟩
              rw [← r' R, e154_43]
              simp (disch := first | assumption | omega) only [e154_0, e154_1, e154_4, e154_7, e154_10, e154_11, e154_12, e154_15, e154_18, e154_19, e154_22, e154_25, e154_26, e154_27, e154_30, e154_31, e154_34, e154_35, e154_36, e154_39, e154_40, e154_41, e154_42, e154_44, e154_45, e154_48, e154_51, e154_52, e154_53, e154_56, e154_58, e154_60, e154_60N, e154_63, e154_65, e154_68, e154_69, e154_72, e154_73, e154_76, e154_77, e154_80, e154_83, e154_84, e154_87, e154_90, e154_91, e154_94, e154_97, e154_100, e154_101, e154_104, e154_106, e154_109, e154_111, e154_114, e154_115, e154_118, e154_119, e154_122, e154_124, e154_125, e154_126, e154_127, e154_130, e154_133, e154_134, m154, ↓reduceIte, qg_0, qg_1, qg_2, qg_3, qg_4, qg_5, qg_6, qg_7, qg_8, qg_9, qg_10, qg_11, qg_12, qg_13, not_true_eq_false, not_false_eq_true, Nat.reduceBEq, Bool.false_eq_true, ex1, ex3, ex4, exF, qfit_i, qfit_l, qfit_r, qfit_n, qfit_b0, qfit_b1, qcat_i, qcat_r, qcat_n, qcat_l, qroom_0, qroom_c, List.map_cons, List.map_nil, List.sum_cons, List.sum_nil, Nat.reduceAdd, Nat.reduceMul, Nat.reduceLT, Nat.reduceLeDiff, Nat.reduceEqDiff, Nat.reduceSub, decide_true, true_and, and_true, and_self, if_true, if_false, Option.toList_some, Option.toList_none, List.cons_append, List.nil_append, qsL, qlong, List.length_cons, List.length_nil, iN_L, exI, iN_add, iN_mul, iN_le, iN_lt, iN_eq, Nat.le_refl, qfN0, qfN1, uX_16, vX_16, uX_19, vX_19, uX_27, vX_27, uX_30, vX_30, uX_39, vX_39, uX_41, vX_41, uX_43, vX_43, uX_46, vX_46, uX_50, vX_50, uX_53, vX_53, gX_16_1, y1, show ¬ bs.length ≤ i by omega, bx, g0, eq_true z, gX_16_6, gX_16_7, gX_39_0, gX_39_1, gX_39_2, m0, m2, r1, gX_16_6 s1, v16, vlt, vF, n1', fj, r2]
          · obtain ⟨h', r', c'⟩ := ih (i + 1) g (some (.ref (sa i))) (by omega) cg (fun j hj => by
                rcases Nat.lt_or_ge j i with y | y
                · exact hall j y
                · rw [show j = i by omega]
                  exact decide_eq_false fun y' => z y'.1)
            refine ⟨h', fun R => ?_, c'⟩
            rw [← r' R, e154_43]
            simp (disch := first | assumption | omega) only [e154_0, e154_1, e154_4, e154_7, e154_10, e154_11, e154_12, e154_15, e154_18, e154_19, e154_22, e154_25, e154_26, e154_27, e154_30, e154_31, e154_34, e154_35, e154_36, e154_39, e154_40, e154_41, e154_42, e154_44, e154_45, e154_48, e154_51, e154_52, e154_53, e154_56, e154_58, e154_60, e154_60N, e154_63, e154_65, e154_68, e154_69, e154_72, e154_73, e154_76, e154_77, e154_80, e154_83, e154_84, e154_87, e154_90, e154_91, e154_94, e154_97, e154_100, e154_101, e154_104, e154_106, e154_109, e154_111, e154_114, e154_115, e154_118, e154_119, e154_122, e154_124, e154_125, e154_126, e154_127, e154_130, e154_133, e154_134, m154, ↓reduceIte, qg_0, qg_1, qg_2, qg_3, qg_4, qg_5, qg_6, qg_7, qg_8, qg_9, qg_10, qg_11, qg_12, qg_13, not_true_eq_false, not_false_eq_true, Nat.reduceBEq, Bool.false_eq_true, ex1, ex3, ex4, exF, qfit_i, qfit_l, qfit_r, qfit_n, qfit_b0, qfit_b1, qcat_i, qcat_r, qcat_n, qcat_l, qroom_0, qroom_c, List.map_cons, List.map_nil, List.sum_cons, List.sum_nil, Nat.reduceAdd, Nat.reduceMul, Nat.reduceLT, Nat.reduceLeDiff, Nat.reduceEqDiff, Nat.reduceSub, decide_true, true_and, and_true, and_self, if_true, if_false, Option.toList_some, Option.toList_none, List.cons_append, List.nil_append, qsL, qlong, List.length_cons, List.length_nil, iN_L, exI, iN_add, iN_mul, iN_le, iN_lt, iN_eq, Nat.le_refl, qfN0, qfN1, uX_16, vX_16, uX_19, vX_19, uX_27, vX_27, uX_30, vX_30, uX_39, vX_39, uX_41, vX_41, uX_43, vX_43, uX_46, vX_46, uX_50, vX_50, uX_53, vX_53, gX_16_1, y1, show ¬ bs.length ≤ i by omega, bx, g0, z]
      obtain ⟨h', r', c'⟩ := loop bs.length 0 h none (by omega) (ChX.refl s) (fun j hj => absurd hj (Nat.not_lt_zero j))
      refine ⟨h', fun R => ?_, c'⟩
      rw [← r' R]
      simp (disch := first | assumption | omega) only [e154_0, e154_1, e154_4, e154_7, e154_10, e154_11, e154_12, e154_15, e154_18, e154_19, e154_22, e154_25, e154_26, e154_27, e154_30, e154_31, e154_34, e154_35, e154_36, e154_39, e154_40, e154_41, e154_42, e154_44, e154_45, e154_48, e154_51, e154_52, e154_53, e154_56, e154_58, e154_60, e154_60N, e154_63, e154_65, e154_68, e154_69, e154_72, e154_73, e154_76, e154_77, e154_80, e154_83, e154_84, e154_87, e154_90, e154_91, e154_94, e154_97, e154_100, e154_101, e154_104, e154_106, e154_109, e154_111, e154_114, e154_115, e154_118, e154_119, e154_122, e154_124, e154_125, e154_126, e154_127, e154_130, e154_133, e154_134, m154, ↓reduceIte, qg_0, qg_1, qg_2, qg_3, qg_4, qg_5, qg_6, qg_7, qg_8, qg_9, qg_10, qg_11, qg_12, qg_13, not_true_eq_false, not_false_eq_true, Nat.reduceBEq, Bool.false_eq_true, ex1, ex3, ex4, exF, qfit_i, qfit_l, qfit_r, qfit_n, qfit_b0, qfit_b1, qcat_i, qcat_r, qcat_n, qcat_l, qroom_0, qroom_c, List.map_cons, List.map_nil, List.sum_cons, List.sum_nil, Nat.reduceAdd, Nat.reduceMul, Nat.reduceLT, Nat.reduceLeDiff, Nat.reduceEqDiff, Nat.reduceSub, decide_true, true_and, and_true, and_self, if_true, if_false, Option.toList_some, Option.toList_none, List.cons_append, List.nil_append, qsL, qlong, List.length_cons, List.length_nil, iN_L, exI, iN_add, iN_mul, iN_le, iN_lt, iN_eq, Nat.le_refl, qfN0, qfN1, uX_16, vX_16, uX_19, vX_19, uX_27, vX_27, uX_30, vX_30, uX_39, vX_39, uX_41, vX_41, uX_43, vX_43, uX_46, vX_46, uX_50, vX_50, uX_53, vX_53, dm, iN10, gX_16_7, sz, bk]
end XINSIDE

/-! ===== THE CLASS: up ===== -/
section XCLIMB
variable {d : Nat} {h : qH} {bs : List bdy} {sa : Nat → Nat} {R : qRes} {tl : pt4}
set_option maxRecDepth 100000 in
set_option maxHeartbeats 16000000 in
theorem x_climb {i c t : Nat} (s : ShX h) (X : BsX h bs sa) (tv : TlX h tl) (hi' : i < bs.length) (hc : c < (cnr bs i).length) (ut : upT (adjB (cel bs i 1)) (htZ tl (cnr bs i) (dmn bs i)) (cnr bs i).length c t) : ∃ h', (∀ R, qMC (d + 4) 125 [.ref 43, .ref (sa i), .int (iN c)] h R ↔ R = (none, h')) ∧ ChX [] [(43, 2), (43, 3)] 0 h h' ∧ xi h' 43 2 = iN (upN (adjB (cel bs i 1)) (htZ tl (cnr bs i) (dmn bs i)) (cnr bs i).length c t) ∧ xi h' 43 3 = iN t := by
  have n16 := (X.at hi').choose_spec.choose_spec.choose_spec.choose_spec.choose_spec.2.2.1.2
  obtain ⟨U, eU⟩ : ∃ U, U = upN (adjB (cel bs i 1)) (htZ tl (cnr bs i) (dmn bs i)) (cnr bs i).length c := ⟨_, rfl⟩
  have uS : ∀ k, U (k + 1) = bstN (adjB (cel bs i 1)) (htZ tl (cnr bs i) (dmn bs i)) (U k) (cnr bs i).length := fun k => by rw [eU]; rfl
  have uL : ∀ k, U k < (cnr bs i).length := fun k => by rw [eU]; exact upN_lt hc k
  have u0 : U 0 = c := by rw [eU]; rfl
  obtain ⟨⟨tn, te⟩, tm⟩ := ut
  rw [← eU] at te tm ⊢
  have hb : ∀ g, ChX [] [(43, 2), (43, 3)] 0 h g → ∀ k R, qMC (d + 3) 126 [.ref 43, .ref (sa i), .int (iN (U k))] g R ↔ R = (some (.int (iN (U (k + 1)))), g) := by
    intro g c k R
    rw [uS]
    exact x_highest c.sh (X.ch s c (by decide) (by decide) (by decide)) (tv.ch c s (by decide)) hi' (uL k)
  have go : ∀ (w k : Nat) (g : qH), k + w = t → ChX [] [(43, 2), (43, 3)] 0 h g → xi g 43 2 = iN (U k) → xi g 43 3 = iN k → ∃ h', (∀ R, qEv (d + 3) 4 qk_125 20 [some (.ref 43), some (.ref (sa i)), some (.int (iN c)), some (.int (iN (U (k + 1))))] [] g R ↔ R = (none, h')) ∧ ChX [] [(43, 2), (43, 3)] 0 h h' ∧ xi h' 43 2 = iN (U t) ∧ xi h' 43 3 = iN t := by
    intro w
    induction w with
    | zero =>
      intro k g hk cg m2 m3
      have ek : k = t := by omega
      subst ek
      have sg := cg.sh
      refine ⟨g, fun R => ?_, cg, m2, m3⟩
      rw [e125_20]
      simp (disch := first | assumption | omega) only [e125_0, e125_1, e125_2, e125_5, e125_6, e125_7, e125_10, e125_11, e125_12, e125_13, e125_16, e125_19, e125_21, e125_22, e125_25, e125_28, e125_29, e125_32, e125_33, e125_36, e125_39, e125_40, e125_41, e125_44, e125_45, e125_46, e125_49, e125_50, e125_51, e125_54, e125_55, e125_56, e125_57, e125_60, e125_63, e125_64, e125_67, m125, ↓reduceIte, qg_0, qg_1, qg_2, qg_3, qg_4, qg_5, qg_6, qg_7, qg_8, qg_9, qg_10, qg_11, qg_12, qg_13, not_true_eq_false, not_false_eq_true, Nat.reduceBEq, Bool.false_eq_true, ex1, ex3, ex4, exF, qfit_i, qfit_l, qfit_r, qfit_n, qfit_b0, qfit_b1, qcat_i, qcat_r, qcat_n, qcat_l, qroom_0, qroom_c, List.map_cons, List.map_nil, List.sum_cons, List.sum_nil, Nat.reduceAdd, Nat.reduceMul, Nat.reduceLT, Nat.reduceLeDiff, Nat.reduceEqDiff, Nat.reduceSub, decide_true, true_and, and_true, and_self, if_true, if_false, Option.toList_some, Option.toList_none, List.cons_append, List.nil_append, qsL, qlong, List.length_cons, List.length_nil, iN_L, exI, iN_add, iN_mul, iN_le, iN_lt, iN_eq, Nat.le_refl, qfN0, qfN1, uX_16, vX_16, uX_19, vX_19, uX_27, vX_27, uX_30, vX_30, uX_39, vX_39, uX_41, vX_41, uX_43, vX_43, uX_46, vX_46, uX_50, vX_50, uX_53, vX_53, gX_43_2, m2, te]
    | succ w ih =>
      intro k g hk cg m2 m3
      have sg := cg.sh
      have Xg := X.ch s cg (by decide) (by decide) (by decide)
      obtain ⟨p, q, w', e, B, S, P⟩ := Xg.at hi'
      obtain ⟨⟨u16, ult, uF⟩, g0, g1, g2, g3, g4, g5, g6⟩ := S.obj
      have ne := tm k (by omega)
      have l1 := uL k
      have l2 := uL (k + 1)
      obtain ⟨f1, ef1⟩ : ∃ f1, f1 = xV g 43 2 (.int (iN (U (k + 1)))) := ⟨_, rfl⟩
      have c1 : ChX [] [(43, 2), (43, 3)] 0 h f1 := cg.trans0 (by rw [ef1]; exact ChX.setI sg (by decide) (by decide))
      have s1 := c1.sh
      have p1 : qput g 43 9 2 (.int (iN (U (k + 1)))) = some f1 := by rw [ef1]; exact pX_43_2 sg
      have n3 : xi f1 43 3 = iN k := by rw [ef1, xi_xV, if_neg (by decide)]; exact m3
      have n2 : xi f1 43 2 = iN (U (k + 1)) := by rw [ef1, xi_xV, if_pos ⟨rfl, rfl⟩]
      obtain ⟨f2, ef2⟩ : ∃ f2, f2 = xV f1 43 3 (.int (iN (k + 1))) := ⟨_, rfl⟩
      have c2 : ChX [] [(43, 2), (43, 3)] 0 h f2 := c1.trans0 (by rw [ef2]; exact ChX.setI s1 (by decide) (by decide))
      have s2 := c2.sh
      have p2 : qput f1 43 9 3 (.int (iN (k + 1))) = some f2 := by rw [ef2]; exact pX_43_3 s1
      have o3 : xi f2 43 3 = iN (k + 1) := by rw [ef2, xi_xV, if_pos ⟨rfl, rfl⟩]
      have o2 : xi f2 43 2 = iN (U (k + 1)) := by rw [ef2, xi_xV, if_neg (by decide)]; exact n2
      obtain ⟨h', r', c', v2, v3⟩ := ih (k + 1) f2 (by omega) c2 o2 o3
      refine ⟨h', fun R => ?_, c', v2, v3⟩
      have hb2 := hb f2 c2 (k + 1)
      rw [← r' R, e125_20]
      simp (disch := first | assumption | omega) only [e125_0, e125_1, e125_2, e125_5, e125_6, e125_7, e125_10, e125_11, e125_12, e125_13, e125_16, e125_19, e125_21, e125_22, e125_25, e125_28, e125_29, e125_32, e125_33, e125_36, e125_39, e125_40, e125_41, e125_44, e125_45, e125_46, e125_49, e125_50, e125_51, e125_54, e125_55, e125_56, e125_57, e125_60, e125_63, e125_64, e125_67, m125, ↓reduceIte, qg_0, qg_1, qg_2, qg_3, qg_4, qg_5, qg_6, qg_7, qg_8, qg_9, qg_10, qg_11, qg_12, qg_13, not_true_eq_false, not_false_eq_true, Nat.reduceBEq, Bool.false_eq_true, ex1, ex3, ex4, exF, qfit_i, qfit_l, qfit_r, qfit_n, qfit_b0, qfit_b1, qcat_i, qcat_r, qcat_n, qcat_l, qroom_0, qroom_c, List.map_cons, List.map_nil, List.sum_cons, List.sum_nil, Nat.reduceAdd, Nat.reduceMul, Nat.reduceLT, Nat.reduceLeDiff, Nat.reduceEqDiff, Nat.reduceSub, decide_true, true_and, and_true, and_self, if_true, if_false, Option.toList_some, Option.toList_none, List.cons_append, List.nil_append, qsL, qlong, List.length_cons, List.length_nil, iN_L, exI, iN_add, iN_mul, iN_le, iN_lt, iN_eq, Nat.le_refl, qfN0, qfN1, uX_16, vX_16, uX_19, vX_19, uX_27, vX_27, uX_30, vX_30, uX_39, vX_39, uX_41, vX_41, uX_43, vX_43, uX_46, vX_46, uX_50, vX_50, uX_53, vX_53, gX_43_2, gX_43_3, m2, m3, ne, u16, ult, uF, g0, g1, g2, g3, g4, g5, g6, show ¬ (cnr bs i).length ≤ k by omega, p1, n3, p2, o2, hb2]
  obtain ⟨f1, ef1⟩ : ∃ f1, f1 = xV h 43 2 (.int (iN c)) := ⟨_, rfl⟩
  have c1 : ChX [] [(43, 2), (43, 3)] 0 h f1 := by rw [ef1]; exact ChX.setI s (by decide) (by decide)
  have s1 := c1.sh
  have p1 : qput h 43 9 2 (.int (iN c)) = some f1 := by rw [ef1]; exact pX_43_2 s
  have n2 : xi f1 43 2 = iN c := by rw [ef1, xi_xV, if_pos ⟨rfl, rfl⟩]
  obtain ⟨f2, ef2⟩ : ∃ f2, f2 = xV f1 43 3 (.int (iN 0)) := ⟨_, rfl⟩
  have c2 : ChX [] [(43, 2), (43, 3)] 0 h f2 := c1.trans0 (by rw [ef2]; exact ChX.setI s1 (by decide) (by decide))
  have s2 := c2.sh
  have p2 : qput f1 43 9 3 (.int (iN 0)) = some f2 := by rw [ef2]; exact pX_43_3 s1
  have o3 : xi f2 43 3 = iN 0 := by rw [ef2, xi_xV, if_pos ⟨rfl, rfl⟩]
  have o2 : xi f2 43 2 = iN c := by rw [ef2, xi_xV, if_neg (by decide)]; exact n2
  obtain ⟨h', r', c', v2, v3⟩ := go t 0 f2 (by omega) c2 (by rw [u0]; exact o2) o3
  refine ⟨h', fun R => ?_, c', v2, v3⟩
  have hb2 := hb f2 c2 0
  rw [u0] at hb2
  rw [← r' R]
  simp (disch := first | assumption | omega) only [e125_0, e125_1, e125_2, e125_5, e125_6, e125_7, e125_10, e125_11, e125_12, e125_13, e125_16, e125_19, e125_21, e125_22, e125_25, e125_28, e125_29, e125_32, e125_33, e125_36, e125_39, e125_40, e125_41, e125_44, e125_45, e125_46, e125_49, e125_50, e125_51, e125_54, e125_55, e125_56, e125_57, e125_60, e125_63, e125_64, e125_67, m125, ↓reduceIte, qg_0, qg_1, qg_2, qg_3, qg_4, qg_5, qg_6, qg_7, qg_8, qg_9, qg_10, qg_11, qg_12, qg_13, not_true_eq_false, not_false_eq_true, Nat.reduceBEq, Bool.false_eq_true, ex1, ex3, ex4, exF, qfit_i, qfit_l, qfit_r, qfit_n, qfit_b0, qfit_b1, qcat_i, qcat_r, qcat_n, qcat_l, qroom_0, qroom_c, List.map_cons, List.map_nil, List.sum_cons, List.sum_nil, Nat.reduceAdd, Nat.reduceMul, Nat.reduceLT, Nat.reduceLeDiff, Nat.reduceEqDiff, Nat.reduceSub, decide_true, true_and, and_true, and_self, if_true, if_false, Option.toList_some, Option.toList_none, List.cons_append, List.nil_append, qsL, qlong, List.length_cons, List.length_nil, iN_L, exI, iN_add, iN_mul, iN_le, iN_lt, iN_eq, Nat.le_refl, qfN0, qfN1, uX_16, vX_16, uX_19, vX_19, uX_27, vX_27, uX_30, vX_30, uX_39, vX_39, uX_41, vX_41, uX_43, vX_43, uX_46, vX_46, uX_50, vX_50, uX_53, vX_53, p1, p2, gX_43_2, o2, hb2]
set_option maxRecDepth 100000 in
set_option maxHeartbeats 16000000 in
theorem x_up {x y z v : Int32} (s : ShX h) (X : BsX h bs sa) (tv : TlX h tl) (hv : upR bs tl x y z v) : ∃ h', (∀ R, qMC (d + 5) 162 [.ref 16, .int x, .int y, .int z] h R ↔ R = (some (.int v), h')) ∧ ChX [] [(43, 2), (43, 3)] 0 h h' := by
  rcases hv with ⟨hn, rfl⟩ | ⟨hc, hz, rfl⟩ | ⟨i, c, k, t, ⟨hi', rfl⟩, ⟨hc, rfl⟩, ⟨hk, rfl⟩, ut, rfl⟩
  · refine ⟨h, fun R => ?_, ChX.refl s⟩
    by_cases hb : isB bs x
    · obtain ⟨i, hi', rfl⟩ := id hb
      have b : ∀ R, qMC (d + 4) 179 [.ref 16, .int (iN i)] h R ↔ R = (some (.ref (sa i)), h) := fun R => x_bodyAt1 s X hi'
      obtain ⟨p, q, w, e, B, S, P⟩ := X.at hi'
      obtain ⟨⟨u16, ult, uF⟩, g0, g1, g2, g3, g4, g5, g6⟩ := S.obj
      rw [isC_at X.1 hi' rfl] at hn
      have hcr : ∀ R, qMC (d + 4) 102 [.ref (sa i), .int y] h R ↔ _ := fun R => (x_hasCorner S P.2.1.2).2 hn
      simp (disch := first | assumption | omega) only [e162_0, e162_1, e162_2, e162_5, e162_7, e162_9, e162_9N, e162_12, e162_14, e162_15, e162_18, e162_21, e162_24, e162_25, e162_26, e162_29, e162_30, e162_31, e162_34, e162_37, e162_38, e162_39, e162_42, e162_44, e162_45, e162_48, e162_49, e162_52, e162_53, e162_56, e162_59, e162_60, e162_61, e162_62, e162_65, e162_66, e162_69, e162_72, e162_75, e162_76, e162_79, e162_81, e162_82, e162_85, e162_88, e162_91, m162, ↓reduceIte, qg_0, qg_1, qg_2, qg_3, qg_4, qg_5, qg_6, qg_7, qg_8, qg_9, qg_10, qg_11, qg_12, qg_13, not_true_eq_false, not_false_eq_true, Nat.reduceBEq, Bool.false_eq_true, ex1, ex3, ex4, exF, qfit_i, qfit_l, qfit_r, qfit_n, qfit_b0, qfit_b1, qcat_i, qcat_r, qcat_n, qcat_l, qroom_0, qroom_c, List.map_cons, List.map_nil, List.sum_cons, List.sum_nil, Nat.reduceAdd, Nat.reduceMul, Nat.reduceLT, Nat.reduceLeDiff, Nat.reduceEqDiff, Nat.reduceSub, decide_true, true_and, and_true, and_self, if_true, if_false, Option.toList_some, Option.toList_none, List.cons_append, List.nil_append, qsL, qlong, List.length_cons, List.length_nil, iN_L, exI, iN_add, iN_mul, iN_le, iN_lt, iN_eq, Nat.le_refl, qfN0, qfN1, uX_16, vX_16, uX_19, vX_19, uX_27, vX_27, uX_30, vX_30, uX_39, vX_39, uX_41, vX_41, uX_43, vX_43, uX_46, vX_46, uX_50, vX_50, uX_53, vX_53, b, u16, ult, uF, g0, g1, g2, g3, g4, g5, g6, hcr]
    · have b : ∀ R, qMC (d + 4) 179 [.ref 16, .int x] h R ↔ R = (some .null, h) := fun R => x_bodyAt0 s X hb
      simp (disch := first | assumption | omega) only [e162_0, e162_1, e162_2, e162_5, e162_7, e162_9, e162_9N, e162_12, e162_14, e162_15, e162_18, e162_21, e162_24, e162_25, e162_26, e162_29, e162_30, e162_31, e162_34, e162_37, e162_38, e162_39, e162_42, e162_44, e162_45, e162_48, e162_49, e162_52, e162_53, e162_56, e162_59, e162_60, e162_61, e162_62, e162_65, e162_66, e162_69, e162_72, e162_75, e162_76, e162_79, e162_81, e162_82, e162_85, e162_88, e162_91, m162, ↓reduceIte, qg_0, qg_1, qg_2, qg_3, qg_4, qg_5, qg_6, qg_7, qg_8, qg_9, qg_10, qg_11, qg_12, qg_13, not_true_eq_false, not_false_eq_true, Nat.reduceBEq, Bool.false_eq_true, ex1, ex3, ex4, exF, qfit_i, qfit_l, qfit_r, qfit_n, qfit_b0, qfit_b1, qcat_i, qcat_r, qcat_n, qcat_l, qroom_0, qroom_c, List.map_cons, List.map_nil, List.sum_cons, List.sum_nil, Nat.reduceAdd, Nat.reduceMul, Nat.reduceLT, Nat.reduceLeDiff, Nat.reduceEqDiff, Nat.reduceSub, decide_true, true_and, and_true, and_self, if_true, if_false, Option.toList_some, Option.toList_none, List.cons_append, List.nil_append, qsL, qlong, List.length_cons, List.length_nil, iN_L, exI, iN_add, iN_mul, iN_le, iN_lt, iN_eq, Nat.le_refl, qfN0, qfN1, uX_16, vX_16, uX_19, vX_19, uX_27, vX_27, uX_30, vX_30, uX_39, vX_39, uX_41, vX_41, uX_43, vX_43, uX_46, vX_46, uX_50, vX_50, uX_53, vX_53, b]
  · refine ⟨h, fun R => ?_, ChX.refl s⟩
    obtain ⟨i, c, ⟨hi', rfl⟩, hc', rfl⟩ := hc
    have b : ∀ R, qMC (d + 4) 179 [.ref 16, .int (iN i)] h R ↔ R = (some (.ref (sa i)), h) := fun R => x_bodyAt1 s X hi'
    obtain ⟨p, q, w, e, B, S, P⟩ := X.at hi'
    obtain ⟨⟨u16, ult, uF⟩, g0, g1, g2, g3, g4, g5, g6⟩ := S.obj
    have hcr : ∀ R, qMC (d + 4) 102 [.ref (sa i), .int (iN c)] h R ↔ _ := fun R => (x_hasCorner S P.2.1.2).1 ⟨c, hc', rfl⟩
    have hy' : ¬ ∃ e, e < 3 ∧ z = iN e := fun ⟨e, h1, h2⟩ => hz ⟨e, by omega, h2⟩
    rw [lt_cnt (by omega)] at hy'
    by_cases q1 : z < iN 0
    · simp (disch := first | assumption | omega) only [e162_0, e162_1, e162_2, e162_5, e162_7, e162_9, e162_9N, e162_12, e162_14, e162_15, e162_18, e162_21, e162_24, e162_25, e162_26, e162_29, e162_30, e162_31, e162_34, e162_37, e162_38, e162_39, e162_42, e162_44, e162_45, e162_48, e162_49, e162_52, e162_53, e162_56, e162_59, e162_60, e162_61, e162_62, e162_65, e162_66, e162_69, e162_72, e162_75, e162_76, e162_79, e162_81, e162_82, e162_85, e162_88, e162_91, m162, ↓reduceIte, qg_0, qg_1, qg_2, qg_3, qg_4, qg_5, qg_6, qg_7, qg_8, qg_9, qg_10, qg_11, qg_12, qg_13, not_true_eq_false, not_false_eq_true, Nat.reduceBEq, Bool.false_eq_true, ex1, ex3, ex4, exF, qfit_i, qfit_l, qfit_r, qfit_n, qfit_b0, qfit_b1, qcat_i, qcat_r, qcat_n, qcat_l, qroom_0, qroom_c, List.map_cons, List.map_nil, List.sum_cons, List.sum_nil, Nat.reduceAdd, Nat.reduceMul, Nat.reduceLT, Nat.reduceLeDiff, Nat.reduceEqDiff, Nat.reduceSub, decide_true, true_and, and_true, and_self, if_true, if_false, Option.toList_some, Option.toList_none, List.cons_append, List.nil_append, qsL, qlong, List.length_cons, List.length_nil, iN_L, exI, iN_add, iN_mul, iN_le, iN_lt, iN_eq, Nat.le_refl, qfN0, qfN1, uX_16, vX_16, uX_19, vX_19, uX_27, vX_27, uX_30, vX_30, uX_39, vX_39, uX_41, vX_41, uX_43, vX_43, uX_46, vX_46, uX_50, vX_50, uX_53, vX_53, b, u16, ult, uF, g0, g1, g2, g3, g4, g5, g6, hcr, iN10, q1]
    · have q2 : ¬ z ≤ iN 2 := fun y => hy' ⟨q1, fun w => by
        rw [le_N (by omega)] at y
        rw [leN_x (by omega)] at w
        omega⟩
      simp (disch := first | assumption | omega) only [e162_0, e162_1, e162_2, e162_5, e162_7, e162_9, e162_9N, e162_12, e162_14, e162_15, e162_18, e162_21, e162_24, e162_25, e162_26, e162_29, e162_30, e162_31, e162_34, e162_37, e162_38, e162_39, e162_42, e162_44, e162_45, e162_48, e162_49, e162_52, e162_53, e162_56, e162_59, e162_60, e162_61, e162_62, e162_65, e162_66, e162_69, e162_72, e162_75, e162_76, e162_79, e162_81, e162_82, e162_85, e162_88, e162_91, m162, ↓reduceIte, qg_0, qg_1, qg_2, qg_3, qg_4, qg_5, qg_6, qg_7, qg_8, qg_9, qg_10, qg_11, qg_12, qg_13, not_true_eq_false, not_false_eq_true, Nat.reduceBEq, Bool.false_eq_true, ex1, ex3, ex4, exF, qfit_i, qfit_l, qfit_r, qfit_n, qfit_b0, qfit_b1, qcat_i, qcat_r, qcat_n, qcat_l, qroom_0, qroom_c, List.map_cons, List.map_nil, List.sum_cons, List.sum_nil, Nat.reduceAdd, Nat.reduceMul, Nat.reduceLT, Nat.reduceLeDiff, Nat.reduceEqDiff, Nat.reduceSub, decide_true, true_and, and_true, and_self, if_true, if_false, Option.toList_some, Option.toList_none, List.cons_append, List.nil_append, qsL, qlong, List.length_cons, List.length_nil, iN_L, exI, iN_add, iN_mul, iN_le, iN_lt, iN_eq, Nat.le_refl, qfN0, qfN1, uX_16, vX_16, uX_19, vX_19, uX_27, vX_27, uX_30, vX_30, uX_39, vX_39, uX_41, vX_41, uX_43, vX_43, uX_46, vX_46, uX_50, vX_50, uX_53, vX_53, b, u16, ult, uF, g0, g1, g2, g3, g4, g5, g6, hcr, iN10, q1, q2]
  · have b : ∀ R, qMC (d + 4) 179 [.ref 16, .int (iN i)] h R ↔ R = (some (.ref (sa i)), h) := fun R => x_bodyAt1 s X hi'
    obtain ⟨h', rc, c', v2, v3⟩ := x_climb (d := d) s X tv hi' hc ut
    have s' := c'.sh
    have X' := X.ch s c' (by decide) (by decide) (by decide)
    obtain ⟨p, q, w, e, B, S, P⟩ := X.at hi'
    obtain ⟨⟨u16, ult, uF⟩, g0, g1, g2, g3, g4, g5, g6⟩ := S.obj
    have n16 := P.2.1.2
    have hcr : ∀ R, qMC (d + 4) 102 [.ref (sa i), .int (iN c)] h R ↔ _ := fun R => (x_hasCorner S P.2.1.2).1 ⟨c, hc, rfl⟩
    have ul := upN_lt (adj := adjB (cel bs i 1)) (ht := htZ tl (cnr bs i) (dmn bs i)) hc t
    have hh : ∀ R, qMC (d + 4) 124 [.ref 43, .ref (sa i), .int (iN (upN (adjB (cel bs i 1)) (htZ tl (cnr bs i) (dmn bs i)) (cnr bs i).length c t))] h' R ↔ _ := fun R => x_height s' X' (tv.ch c' s (by decide)) hi' ul
    refine ⟨h', fun R => ?_, c'⟩
    rcases (show k = 0 ∨ k = 1 ∨ k = 2 by omega) with rfl | rfl | rfl
    · rw [if_pos rfl]
      simp (disch := first | assumption | omega) only [e162_0, e162_1, e162_2, e162_5, e162_7, e162_9, e162_9N, e162_12, e162_14, e162_15, e162_18, e162_21, e162_24, e162_25, e162_26, e162_29, e162_30, e162_31, e162_34, e162_37, e162_38, e162_39, e162_42, e162_44, e162_45, e162_48, e162_49, e162_52, e162_53, e162_56, e162_59, e162_60, e162_61, e162_62, e162_65, e162_66, e162_69, e162_72, e162_75, e162_76, e162_79, e162_81, e162_82, e162_85, e162_88, e162_91, m162, ↓reduceIte, qg_0, qg_1, qg_2, qg_3, qg_4, qg_5, qg_6, qg_7, qg_8, qg_9, qg_10, qg_11, qg_12, qg_13, not_true_eq_false, not_false_eq_true, Nat.reduceBEq, Bool.false_eq_true, ex1, ex3, ex4, exF, qfit_i, qfit_l, qfit_r, qfit_n, qfit_b0, qfit_b1, qcat_i, qcat_r, qcat_n, qcat_l, qroom_0, qroom_c, List.map_cons, List.map_nil, List.sum_cons, List.sum_nil, Nat.reduceAdd, Nat.reduceMul, Nat.reduceLT, Nat.reduceLeDiff, Nat.reduceEqDiff, Nat.reduceSub, decide_true, true_and, and_true, and_self, if_true, if_false, Option.toList_some, Option.toList_none, List.cons_append, List.nil_append, qsL, qlong, List.length_cons, List.length_nil, iN_L, exI, iN_add, iN_mul, iN_le, iN_lt, iN_eq, Nat.le_refl, qfN0, qfN1, uX_16, vX_16, uX_19, vX_19, uX_27, vX_27, uX_30, vX_30, uX_39, vX_39, uX_41, vX_41, uX_43, vX_43, uX_46, vX_46, uX_50, vX_50, uX_53, vX_53, b, u16, ult, uF, g0, g1, g2, g3, g4, g5, g6, hcr, iN10, gX_16_9, rc, gX_43_2, v2]
    · rw [if_neg (by decide), if_pos rfl]
      simp (disch := first | assumption | omega) only [e162_0, e162_1, e162_2, e162_5, e162_7, e162_9, e162_9N, e162_12, e162_14, e162_15, e162_18, e162_21, e162_24, e162_25, e162_26, e162_29, e162_30, e162_31, e162_34, e162_37, e162_38, e162_39, e162_42, e162_44, e162_45, e162_48, e162_49, e162_52, e162_53, e162_56, e162_59, e162_60, e162_61, e162_62, e162_65, e162_66, e162_69, e162_72, e162_75, e162_76, e162_79, e162_81, e162_82, e162_85, e162_88, e162_91, m162, ↓reduceIte, qg_0, qg_1, qg_2, qg_3, qg_4, qg_5, qg_6, qg_7, qg_8, qg_9, qg_10, qg_11, qg_12, qg_13, not_true_eq_false, not_false_eq_true, Nat.reduceBEq, Bool.false_eq_true, ex1, ex3, ex4, exF, qfit_i, qfit_l, qfit_r, qfit_n, qfit_b0, qfit_b1, qcat_i, qcat_r, qcat_n, qcat_l, qroom_0, qroom_c, List.map_cons, List.map_nil, List.sum_cons, List.sum_nil, Nat.reduceAdd, Nat.reduceMul, Nat.reduceLT, Nat.reduceLeDiff, Nat.reduceEqDiff, Nat.reduceSub, decide_true, true_and, and_true, and_self, if_true, if_false, Option.toList_some, Option.toList_none, List.cons_append, List.nil_append, qsL, qlong, List.length_cons, List.length_nil, iN_L, exI, iN_add, iN_mul, iN_le, iN_lt, iN_eq, Nat.le_refl, qfN0, qfN1, uX_16, vX_16, uX_19, vX_19, uX_27, vX_27, uX_30, vX_30, uX_39, vX_39, uX_41, vX_41, uX_43, vX_43, uX_46, vX_46, uX_50, vX_50, uX_53, vX_53, b, u16, ult, uF, g0, g1, g2, g3, g4, g5, g6, hcr, iN10, gX_16_9, rc, gX_43_3, v3]
    · rw [if_neg (by decide), if_neg (by decide)]
      simp (disch := first | assumption | omega) only [e162_0, e162_1, e162_2, e162_5, e162_7, e162_9, e162_9N, e162_12, e162_14, e162_15, e162_18, e162_21, e162_24, e162_25, e162_26, e162_29, e162_30, e162_31, e162_34, e162_37, e162_38, e162_39, e162_42, e162_44, e162_45, e162_48, e162_49, e162_52, e162_53, e162_56, e162_59, e162_60, e162_61, e162_62, e162_65, e162_66, e162_69, e162_72, e162_75, e162_76, e162_79, e162_81, e162_82, e162_85, e162_88, e162_91, m162, ↓reduceIte, qg_0, qg_1, qg_2, qg_3, qg_4, qg_5, qg_6, qg_7, qg_8, qg_9, qg_10, qg_11, qg_12, qg_13, not_true_eq_false, not_false_eq_true, Nat.reduceBEq, Bool.false_eq_true, ex1, ex3, ex4, exF, qfit_i, qfit_l, qfit_r, qfit_n, qfit_b0, qfit_b1, qcat_i, qcat_r, qcat_n, qcat_l, qroom_0, qroom_c, List.map_cons, List.map_nil, List.sum_cons, List.sum_nil, Nat.reduceAdd, Nat.reduceMul, Nat.reduceLT, Nat.reduceLeDiff, Nat.reduceEqDiff, Nat.reduceSub, decide_true, true_and, and_true, and_self, if_true, if_false, Option.toList_some, Option.toList_none, List.cons_append, List.nil_append, qsL, qlong, List.length_cons, List.length_nil, iN_L, exI, iN_add, iN_mul, iN_le, iN_lt, iN_eq, Nat.le_refl, qfN0, qfN1, uX_16, vX_16, uX_19, vX_19, uX_27, vX_27, uX_30, vX_30, uX_39, vX_39, uX_41, vX_41, uX_43, vX_43, uX_46, vX_46, uX_50, vX_50, uX_53, vX_53, b, u16, ult, uF, g0, g1, g2, g3, g4, g5, g6, hcr, iN10, gX_16_9, rc, gX_43_2, v2, hh]
end XCLIMB

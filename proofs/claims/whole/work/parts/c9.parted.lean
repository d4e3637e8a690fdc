/-! ===== THE REFERENCE: where, parted, holds, the calls ===== -/
section PARTED
variable {d : Nat} {h : qH} {bs : List bdy} {dr : List pt4}
/-- planes of all facets -/
noncomputable def plA (bs : List bdy) (i : Nat) (Qv : Nat → Nat → Int) : Prop := ∀ j, j < (fct bs i).length → isPl (bs.getD i b0).1 (bs.getD i b0).2.1 ((fct bs i).getD j 0) (Qv j)
theorem PlV.a {i : Nat} {Qv : Nat → Nat → Int} (v : PlV h bs i Qv) : plA bs i Qv := fun j hj => (v j hj).1
def lstP (dr : List pt4) : pt4 := dr.getD (dr.length - 1) z4
noncomputable def whrR (bs : List bdy) (dr : List pt4) (x v : Int32) : Prop := ((¬ ∃ i, i < bs.length ∧ x = iN i) ∧ v = -1001) ∨ ∃ i, (i < bs.length ∧ x = iN i) ∧ ((dr.length = 0 ∧ v = -1003) ∨ (0 < dr.length ∧ ∃ Qv, plA bs i Qv ∧ whrZ bs i Qv (lstP dr) v))
theorem DrV.at {p k : Nat} (v : DrV h dr) (hp : p < dr.length) (hk : k < 4) : hi h 70 (4 * p + k) = iZ (co (dr.getD p z4) k) := (v.2.2 p hp k hk).1
theorem DrV.sm8 {p : Nat} (v : DrV h dr) (hp : p < dr.length) : smN8 (dr.getD p z4) := fun k hk => by
  have := (v.2.2 p hp k hk).2
  unfold lP at this
  omega
set_option maxRecDepth 100000 in
set_option maxHeartbeats 16000000 in
theorem s_where (s : ShM h) (B : BsM h bs) (dv : DrV h dr) (x : Int32) : ∃ v, (∀ R, qMC (d + 4) 280 [.ref 55, .int x] h R ↔ R = (some (.int v), h)) ∧ whrR bs dr x v := by
  have n1 : ¬ (1 : Int32) = iN 0 := by decide
  have d16 := dv.1
  by_cases hx : ∃ i, i < bs.length ∧ x = iN i
  · obtain ⟨i, hi', rfl⟩ := id hx
    rcases Nat.eq_zero_or_pos dr.length with e | e
    · refine ⟨-1003, fun R => ?_, Or.inr ⟨i, ⟨hi', rfl⟩, Or.inl ⟨e, rfl⟩⟩⟩
      have m18 : mi h 18 = iN 0 := by rw [dv.2.1, e]
      simp (disch := first | assumption | omega) only [e280_0, e280_1, e280_2, e280_5, e280_8, e280_11, e280_12, e280_13, e280_16, e280_19, e280_22, e280_23, e280_24, e280_25, e280_28, e280_29, e280_30, e280_31, e280_32, e280_33, e280_34, e280_35, e280_38, e280_39, e280_40, e280_41, e280_44, e280_45, e280_46, e280_47, e280_48, e280_49, e280_52, e280_53, e280_54, e280_55, e280_56, e280_57, e280_60, e280_61, e280_62, e280_63, e280_64, e280_67, m280, ↓reduceIte, qg_0, qg_1, qg_2, qg_3, qg_4, qg_5, qg_6, qg_7, qg_8, qg_9, qg_10, qg_11, qg_12, qg_13, not_true_eq_false, not_false_eq_true, Nat.reduceBEq, Bool.false_eq_true, ex1, ex3, ex4, exF, qfit_i, qfit_l, qfit_r, qfit_n, qfit_b0, qfit_b1, qcat_i, qcat_r, qcat_n, qcat_l, qroom_0, qroom_c, List.map_cons, List.map_nil, List.sum_cons, List.sum_nil, Nat.reduceAdd, Nat.reduceMul, Nat.reduceLT, Nat.reduceLeDiff, Nat.reduceEqDiff, Nat.reduceSub, decide_true, true_and, and_true, and_self, if_true, if_false, Option.toList_some, Option.toList_none, List.cons_append, List.nil_append, qsL, qlong, List.length_cons, List.length_nil, iN_L, vM1, vM2, exI, iN_add, iN_mul, iN_le, iN_lt, iN_eq, Nat.le_refl, qfN0, qfN1, s_isBody1 (d := d + 1) s B hx, n1, gM_18, m18]
    · obtain ⟨Qv, pv⟩ := B.pl hi'
      have hl : dr.length - 1 < dr.length := by omega
      obtain ⟨v, r, w⟩ := s_whereIs (d := d) (p := lstP dr) s B hi' pv (dv.sm8 hl)
      refine ⟨v, fun R => ?_, Or.inr ⟨i, ⟨hi', rfl⟩, Or.inr ⟨e, Qv, pv.a, w⟩⟩⟩
      have a0 : hi h 70 (4 * dr.length - 4) = iZ (lstP dr).1 := by have := dv.at hl (show 0 < 4 by decide); rw [show 4 * (dr.length - 1) + 0 = 4 * dr.length - 4 by omega] at this; exact this
      have a1 : hi h 70 (4 * dr.length - 4 + 1) = iZ (lstP dr).2.1 := by have := dv.at hl (show 1 < 4 by decide); rw [show 4 * (dr.length - 1) + 1 = 4 * dr.length - 4 + 1 by omega] at this; exact this
      have a2 : hi h 70 (4 * dr.length - 4 + 2) = iZ (lstP dr).2.2.1 := by have := dv.at hl (show 2 < 4 by decide); rw [show 4 * (dr.length - 1) + 2 = 4 * dr.length - 4 + 2 by omega] at this; exact this
      have a3 : hi h 70 (4 * dr.length - 4 + 3) = iZ (lstP dr).2.2.2 := by have := dv.at hl (show 3 < 4 by decide); rw [show 4 * (dr.length - 1) + 3 = 4 * dr.length - 4 + 3 by omega] at this; exact this
      simp (disch := first | assumption | omega) only [e280_0, e280_1, e280_2, e280_5, e280_8, e280_11, e280_12, e280_13, e280_16, e280_19, e280_22, e280_23, e280_24, e280_25, e280_28, e280_29, e280_30, e280_31, e280_32, e280_33, e280_34, e280_35, e280_38, e280_39, e280_40, e280_41, e280_44, e280_45, e280_46, e280_47, e280_48, e280_49, e280_52, e280_53, e280_54, e280_55, e280_56, e280_57, e280_60, e280_61, e280_62, e280_63, e280_64, e280_67, m280, ↓reduceIte, qg_0, qg_1, qg_2, qg_3, qg_4, qg_5, qg_6, qg_7, qg_8, qg_9, qg_10, qg_11, qg_12, qg_13, not_true_eq_false, not_false_eq_true, Nat.reduceBEq, Bool.false_eq_true, ex1, ex3, ex4, exF, qfit_i, qfit_l, qfit_r, qfit_n, qfit_b0, qfit_b1, qcat_i, qcat_r, qcat_n, qcat_l, qroom_0, qroom_c, List.map_cons, List.map_nil, List.sum_cons, List.sum_nil, Nat.reduceAdd, Nat.reduceMul, Nat.reduceLT, Nat.reduceLeDiff, Nat.reduceEqDiff, Nat.reduceSub, decide_true, true_and, and_true, and_self, if_true, if_false, Option.toList_some, Option.toList_none, List.cons_append, List.nil_append, qsL, qlong, List.length_cons, List.length_nil, iN_L, vM1, vM2, exI, iN_add, iN_mul, iN_le, iN_lt, iN_eq, Nat.le_refl, qfN0, qfN1, s_isBody1 (d := d + 1) s B hx, n1, gM_18, dv.2.1, show ¬ dr.length = 0 by omega, iN_sub, gM_19, rM_70, a0, a1, a2, a3, r]
  · refine ⟨-1001, fun R => ?_, Or.inl ⟨hx, rfl⟩⟩
    simp (disch := first | assumption | omega) only [e280_0, e280_1, e280_2, e280_5, e280_8, e280_11, e280_12, e280_13, e280_16, e280_19, e280_22, e280_23, e280_24, e280_25, e280_28, e280_29, e280_30, e280_31, e280_32, e280_33, e280_34, e280_35, e280_38, e280_39, e280_40, e280_41, e280_44, e280_45, e280_46, e280_47, e280_48, e280_49, e280_52, e280_53, e280_54, e280_55, e280_56, e280_57, e280_60, e280_61, e280_62, e280_63, e280_64, e280_67, m280, ↓reduceIte, qg_0, qg_1, qg_2, qg_3, qg_4, qg_5, qg_6, qg_7, qg_8, qg_9, qg_10, qg_11, qg_12, qg_13, not_true_eq_false, not_false_eq_true, Nat.reduceBEq, Bool.false_eq_true, ex1, ex3, ex4, exF, qfit_i, qfit_l, qfit_r, qfit_n, qfit_b0, qfit_b1, qcat_i, qcat_r, qcat_n, qcat_l, qroom_0, qroom_c, List.map_cons, List.map_nil, List.sum_cons, List.sum_nil, Nat.reduceAdd, Nat.reduceMul, Nat.reduceLT, Nat.reduceLeDiff, Nat.reduceEqDiff, Nat.reduceSub, decide_true, true_and, and_true, and_self, if_true, if_false, Option.toList_some, Option.toList_none, List.cons_append, List.nil_append, qsL, qlong, List.length_cons, List.length_nil, iN_L, vM1, vM2, exI, iN_add, iN_mul, iN_le, iN_lt, iN_eq, Nat.le_refl, qfN0, qfN1, s_isBody0 (d := d + 1) s B hx]
/-- the first facet that parts a place -/
noncomputable def prtZ (bs : List bdy) (i : Nat) (Qv : Nat → Nat → Int) (p : pt4) (v : Int32) : Prop := ((∀ j, j < (fct bs i).length → ovZ (Qv j) (dmn bs i) p 1 ≤ 0) ∧ v = -1) ∨ ∃ j, (j < (fct bs i).length ∧ 0 < ovZ (Qv j) (dmn bs i) p 1 ∧ ∀ k, k < j → ovZ (Qv k) (dmn bs i) p 1 ≤ 0) ∧ v = iN j
noncomputable def prtR (bs : List bdy) (dr : List pt4) (x v : Int32) : Prop := ((¬ ∃ i, i < bs.length ∧ x = iN i) ∧ v = -1001) ∨ ∃ i, (i < bs.length ∧ x = iN i) ∧ ((dr.length = 0 ∧ v = -1003) ∨ (0 < dr.length ∧ ∃ Qv, plA bs i Qv ∧ prtZ bs i Qv (lstP dr) v))
set_option maxRecDepth 100000 in
set_option maxHeartbeats 16000000 in
theorem s_parted (s : ShM h) (B : BsM h bs) (dv : DrV h dr) (x : Int32) : ∃ v, (∀ R, qMC (d + 4) 281 [.ref 55, .int x] h R ↔ R = (some (.int v), h)) ∧ prtR bs dr x v := by
  have n1 : ¬ (1 : Int32) = iN 0 := by decide
  have d16 := dv.1
  by_cases hx : ∃ i, i < bs.length ∧ x = iN i
  · obtain ⟨i, hi', rfl⟩ := id hx
    rcases Nat.eq_zero_or_pos dr.length with e | e
    · refine ⟨-1003, fun R => ?_, Or.inr ⟨i, ⟨hi', rfl⟩, Or.inl ⟨e, rfl⟩⟩⟩
      have m18 : mi h 18 = iN 0 := by rw [dv.2.1, e]
      simp (disch := first | assumption | omega) only [e281_0, e281_1, e281_2, e281_5, e281_8, e281_11, e281_12, e281_13, e281_16, e281_19, e281_22, e281_23, e281_24, e281_25, e281_28, e281_29, e281_30, e281_31, e281_32, e281_33, e281_35, e281_36, e281_37, e281_40, e281_43, e281_44, e281_45, e281_46, e281_47, e281_50, e281_51, e281_52, e281_53, e281_56, e281_57, e281_58, e281_59, e281_60, e281_61, e281_64, e281_65, e281_66, e281_67, e281_68, e281_69, e281_72, e281_73, e281_74, e281_75, e281_76, e281_77, e281_80, e281_81, e281_82, e281_85, e281_86, e281_87, e281_90, e281_93, e281_94, m281, ↓reduceIte, qg_0, qg_1, qg_2, qg_3, qg_4, qg_5, qg_6, qg_7, qg_8, qg_9, qg_10, qg_11, qg_12, qg_13, not_true_eq_false, not_false_eq_true, Nat.reduceBEq, Bool.false_eq_true, ex1, ex3, ex4, exF, qfit_i, qfit_l, qfit_r, qfit_n, qfit_b0, qfit_b1, qcat_i, qcat_r, qcat_n, qcat_l, qroom_0, qroom_c, List.map_cons, List.map_nil, List.sum_cons, List.sum_nil, Nat.reduceAdd, Nat.reduceMul, Nat.reduceLT, Nat.reduceLeDiff, Nat.reduceEqDiff, Nat.reduceSub, decide_true, true_and, and_true, and_self, if_true, if_false, Option.toList_some, Option.toList_none, List.cons_append, List.nil_append, qsL, qlong, List.length_cons, List.length_nil, iN_L, vM1, vM2, exI, iN_add, iN_mul, iN_le, iN_lt, iN_eq, Nat.le_refl, qfN0, qfN1, s_isBody1 (d := d + 1) s B hx, n1, gM_18, m18]
    · obtain ⟨Qv, pv⟩ := B.pl hi'
      have b24 := B.1
      have ok := (B.2.2 i hi').1
      have fl := fct_l B hi'
      have hl : dr.length - 1 < dr.length := by omega
      have hp := dv.sm8 hl
      have pB : ptB (lstP dr) := fun k hk => by have := hp k hk; unfold iB lstP; omega
      have a0 : hi h 70 (4 * dr.length - 4) = iZ (lstP dr).1 := by have := dv.at hl (show 0 < 4 by decide); rw [show 4 * (dr.length - 1) + 0 = 4 * dr.length - 4 by omega] at this; exact this
      have a1 : hi h 70 (4 * dr.length - 4 + 1) = iZ (lstP dr).2.1 := by have := dv.at hl (show 1 < 4 by decide); rw [show 4 * (dr.length - 1) + 1 = 4 * dr.length - 4 + 1 by omega] at this; exact this
      have a2 : hi h 70 (4 * dr.length - 4 + 2) = iZ (lstP dr).2.2.1 := by have := dv.at hl (show 2 < 4 by decide); rw [show 4 * (dr.length - 1) + 2 = 4 * dr.length - 4 + 2 by omega] at this; exact this
      have a3 : hi h 70 (4 * dr.length - 4 + 3) = iZ (lstP dr).2.2.2 := by have := dv.at hl (show 3 < 4 by decide); rw [show 4 * (dr.length - 1) + 3 = 4 * dr.length - 4 + 3 by omega] at this; exact this
      have sf : ∀ R, qMC (d + 3) 197 [.ref 55, .int (iN i)] h R ↔ R = (some (.int (iN (fct bs i).length)), h) := fun R => s_facetsC s B hi'
      have r0 : ∀ R, qMC (d + 4) 281 [.ref 55, .int (iN i)] h R ↔ qEv (d + 3) 0 qk_281 34 [some (.ref 55), some (.int (iN i)), some (.int (iN (4 * dr.length - 4))), some (.int (iN 0))] [] h R := by
        intro R
        simp (disch := first | assumption | omega) only [e281_0, e281_1, e281_2, e281_5, e281_8, e281_11, e281_12, e281_13, e281_16, e281_19, e281_22, e281_23, e281_24, e281_25, e281_28, e281_29, e281_30, e281_31, e281_32, e281_33, e281_35, e281_36, e281_37, e281_40, e281_43, e281_44, e281_45, e281_46, e281_47, e281_50, e281_51, e281_52, e281_53, e281_56, e281_57, e281_58, e281_59, e281_60, e281_61, e281_64, e281_65, e281_66, e281_67, e281_68, e281_69, e281_72, e281_73, e281_74, e281_75, e281_76, e281_77, e281_80, e281_81, e281_82, e281_85, e281_86, e281_87, e281_90, e281_93, e281_94, m281, ↓reduceIte, qg_0, qg_1, qg_2, qg_3, qg_4, qg_5, qg_6, qg_7, qg_8, qg_9, qg_10, qg_11, qg_12, qg_13, not_true_eq_false, not_false_eq_true, Nat.reduceBEq, Bool.false_eq_true, ex1, ex3, ex4, exF, qfit_i, qfit_l, qfit_r, qfit_n, qfit_b0, qfit_b1, qcat_i, qcat_r, qcat_n, qcat_l, qroom_0, qroom_c, List.map_cons, List.map_nil, List.sum_cons, List.sum_nil, Nat.reduceAdd, Nat.reduceMul, Nat.reduceLT, Nat.reduceLeDiff, Nat.reduceEqDiff, Nat.reduceSub, decide_true, true_and, and_true, and_self, if_true, if_false, Option.toList_some, Option.toList_none, List.cons_append, List.nil_append, qsL, qlong, List.length_cons, List.length_nil, iN_L, vM1, vM2, exI, iN_add, iN_mul, iN_le, iN_lt, iN_eq, Nat.le_refl, qfN0, qfN1, s_isBody1 (d := d + 1) s B hx, n1, gM_18, dv.2.1, show ¬ dr.length = 0 by omega, iN_sub]
      have key : ∀ (w j : Nat), j + w = (fct bs i).length → (∀ k, k < j → ovZ (Qv k) (dmn bs i) (lstP dr) 1 ≤ 0) → ∃ v, prtZ bs i Qv (lstP dr) v ∧ ∀ R, qEv (d + 3) 0 qk_281 34 [some (.ref 55), some (.int (iN i)), some (.int (iN (4 * dr.length - 4))), some (.int (iN j))] [] h R ↔ R = (some (.int v), h) := by
        intro w
        induction w with
        | zero =>
          intro j hj hle
          have ej : j = (fct bs i).length := by omega
          subst ej
          refine ⟨-1, Or.inl ⟨hle, rfl⟩, fun R => ?_⟩
          rw [e281_34]
          simp (disch := first | assumption | omega) only [e281_0, e281_1, e281_2, e281_5, e281_8, e281_11, e281_12, e281_13, e281_16, e281_19, e281_22, e281_23, e281_24, e281_25, e281_28, e281_29, e281_30, e281_31, e281_32, e281_33, e281_35, e281_36, e281_37, e281_40, e281_43, e281_44, e281_45, e281_46, e281_47, e281_50, e281_51, e281_52, e281_53, e281_56, e281_57, e281_58, e281_59, e281_60, e281_61, e281_64, e281_65, e281_66, e281_67, e281_68, e281_69, e281_72, e281_73, e281_74, e281_75, e281_76, e281_77, e281_80, e281_81, e281_82, e281_85, e281_86, e281_87, e281_90, e281_93, e281_94, m281, ↓reduceIte, qg_0, qg_1, qg_2, qg_3, qg_4, qg_5, qg_6, qg_7, qg_8, qg_9, qg_10, qg_11, qg_12, qg_13, not_true_eq_false, not_false_eq_true, Nat.reduceBEq, Bool.false_eq_true, ex1, ex3, ex4, exF, qfit_i, qfit_l, qfit_r, qfit_n, qfit_b0, qfit_b1, qcat_i, qcat_r, qcat_n, qcat_l, qroom_0, qroom_c, List.map_cons, List.map_nil, List.sum_cons, List.sum_nil, Nat.reduceAdd, Nat.reduceMul, Nat.reduceLT, Nat.reduceLeDiff, Nat.reduceEqDiff, Nat.reduceSub, decide_true, true_and, and_true, and_self, if_true, if_false, Option.toList_some, Option.toList_none, List.cons_append, List.nil_append, qsL, qlong, List.length_cons, List.length_nil, iN_L, vM1, vM2, exI, iN_add, iN_mul, iN_le, iN_lt, iN_eq, Nat.le_refl, qfN0, qfN1, sf]
        | succ w ih =>
          intro j hj hle
          have hjl : j < (fct bs i).length := by omega
          have so : ∀ R, qMC (d + 3) 278 [.ref 55, .int (iN i), .int (iN j), .int (iZ ((lstP dr).1)), .int (iZ ((lstP dr).2.1)), .int (iZ ((lstP dr).2.2.1)), .int (iZ ((lstP dr).2.2.2)), .int (iN 1)] h R ↔ R = (some (.long (lZ (ovZ (Qv j) (dmn bs i) (lstP dr) (1 : Nat)))), h) := fun R => s_over (d := d + 2) s B hi' pv hjl pB (by decide) R
          have bo : lB (ovZ (Qv j) (dmn bs i) (lstP dr) 1) := ovZ_b ok (pv j hjl).1 hp (by decide)
          obtain ⟨o, eo⟩ : ∃ o, o = ovZ (Qv j) (dmn bs i) (lstP dr) 1 := ⟨_, rfl⟩
          have so' : ∀ R, qMC (d + 3) 278 [.ref 55, .int (iN i), .int (iN j), .int (iZ ((lstP dr).1)), .int (iZ ((lstP dr).2.1)), .int (iZ ((lstP dr).2.2.1)), .int (iZ ((lstP dr).2.2.2)), .int (iN 1)] h R ↔ R = (some (.long (lZ o)), h) := fun R => by rw [so R, eo]; rfl
          rw [← eo] at bo
          by_cases q : 0 < o
          · have g : ¬ lZ o ≤ lZ 0 := by rw [lZ_le bo lB_0]; omega
            refine ⟨iN j, Or.inr ⟨j, ⟨hjl, by rw [← eo]; exact q, hle⟩, rfl⟩, fun R => ?_⟩
            rw [e281_34]
            simp (disch := first | assumption | omega) only [e281_0, e281_1, e281_2, e281_5, e281_8, e281_11, e281_12, e281_13, e281_16, e281_19, e281_22, e281_23, e281_24, e281_25, e281_28, e281_29, e281_30, e281_31, e281_32, e281_33, e281_35, e281_36, e281_37, e281_40, e281_43, e281_44, e281_45, e281_46, e281_47, e281_50, e281_51, e281_52, e281_53, e281_56, e281_57, e281_58, e281_59, e281_60, e281_61, e281_64, e281_65, e281_66, e281_67, e281_68, e281_69, e281_72, e281_73, e281_74, e281_75, e281_76, e281_77, e281_80, e281_81, e281_82, e281_85, e281_86, e281_87, e281_90, e281_93, e281_94, m281, ↓reduceIte, qg_0, qg_1, qg_2, qg_3, qg_4, qg_5, qg_6, qg_7, qg_8, qg_9, qg_10, qg_11, qg_12, qg_13, not_true_eq_false, not_false_eq_true, Nat.reduceBEq, Bool.false_eq_true, ex1, ex3, ex4, exF, qfit_i, qfit_l, qfit_r, qfit_n, qfit_b0, qfit_b1, qcat_i, qcat_r, qcat_n, qcat_l, qroom_0, qroom_c, List.map_cons, List.map_nil, List.sum_cons, List.sum_nil, Nat.reduceAdd, Nat.reduceMul, Nat.reduceLT, Nat.reduceLeDiff, Nat.reduceEqDiff, Nat.reduceSub, decide_true, true_and, and_true, and_self, if_true, if_false, Option.toList_some, Option.toList_none, List.cons_append, List.nil_append, qsL, qlong, List.length_cons, List.length_nil, iN_L, vM1, vM2, exI, iN_add, iN_mul, iN_le, iN_lt, iN_eq, Nat.le_refl, qfN0, qfN1, sf, show ¬ (fct bs i).length ≤ j by omega, gM_19, rM_70, a0, a1, a2, a3, so', show (0 : Int64) = lZ 0 from rfl, lgN_le, g]
          · have g : lZ o ≤ lZ 0 := by rw [lZ_le bo lB_0]; omega
            obtain ⟨v, hv, rv⟩ := ih (j + 1) (by omega) (fun k hk => by
              by_cases z : k = j
              · rw [z, ← eo]; omega
              · exact hle k (by omega))
            refine ⟨v, hv, fun R => ?_⟩
            rw [← rv R, e281_34]
            simp (disch := first | assumption | omega) only [e281_0, e281_1, e281_2, e281_5, e281_8, e281_11, e281_12, e281_13, e281_16, e281_19, e281_22, e281_23, e281_24, e281_25, e281_28, e281_29, e281_30, e281_31, e281_32, e281_33, e281_35, e281_36, e281_37, e281_40, e281_43, e281_44, e281_45, e281_46, e281_47, e281_50, e281_51, e281_52, e281_53, e281_56, e281_57, e281_58, e281_59, e281_60, e281_61, e281_64, e281_65, e281_66, e281_67, e281_68, e281_69, e281_72, e281_73, e281_74, e281_75, e281_76, e281_77, e281_80, e281_81, e281_82, e281_85, e281_86, e281_87, e281_90, e281_93, e281_94, m281, ↓reduceIte, qg_0, qg_1, qg_2, qg_3, qg_4, qg_5, qg_6, qg_7, qg_8, qg_9, qg_10, qg_11, qg_12, qg_13, not_true_eq_false, not_false_eq_true, Nat.reduceBEq, Bool.false_eq_true, ex1, ex3, ex4, exF, qfit_i, qfit_l, qfit_r, qfit_n, qfit_b0, qfit_b1, qcat_i, qcat_r, qcat_n, qcat_l, qroom_0, qroom_c, List.map_cons, List.map_nil, List.sum_cons, List.sum_nil, Nat.reduceAdd, Nat.reduceMul, Nat.reduceLT, Nat.reduceLeDiff, Nat.reduceEqDiff, Nat.reduceSub, decide_true, true_and, and_true, and_self, if_true, if_false, Option.toList_some, Option.toList_none, List.cons_append, List.nil_append, qsL, qlong, List.length_cons, List.length_nil, iN_L, vM1, vM2, exI, iN_add, iN_mul, iN_le, iN_lt, iN_eq, Nat.le_refl, qfN0, qfN1, sf, show ¬ (fct bs i).length ≤ j by omega, gM_19, rM_70, a0, a1, a2, a3, so', show (0 : Int64) = lZ 0 from rfl, lgN_le, g]
      obtain ⟨v, hv, rv⟩ := key (fct bs i).length 0 (by omega) (fun k hk => absurd hk (Nat.not_lt_zero k))
      exact ⟨v, fun R => (r0 R).trans (rv R), Or.inr ⟨i, ⟨hi', rfl⟩, Or.inr ⟨e, Qv, pv.a, hv⟩⟩⟩
  · refine ⟨-1001, fun R => ?_, Or.inl ⟨hx, rfl⟩⟩
    simp (disch := first | assumption | omega) only [e281_0, e281_1, e281_2, e281_5, e281_8, e281_11, e281_12, e281_13, e281_16, e281_19, e281_22, e281_23, e281_24, e281_25, e281_28, e281_29, e281_30, e281_31, e281_32, e281_33, e281_35, e281_36, e281_37, e281_40, e281_43, e281_44, e281_45, e281_46, e281_47, e281_50, e281_51, e281_52, e281_53, e281_56, e281_57, e281_58, e281_59, e281_60, e281_61, e281_64, e281_65, e281_66, e281_67, e281_68, e281_69, e281_72, e281_73, e281_74, e281_75, e281_76, e281_77, e281_80, e281_81, e281_82, e281_85, e281_86, e281_87, e281_90, e281_93, e281_94, m281, ↓reduceIte, qg_0, qg_1, qg_2, qg_3, qg_4, qg_5, qg_6, qg_7, qg_8, qg_9, qg_10, qg_11, qg_12, qg_13, not_true_eq_false, not_false_eq_true, Nat.reduceBEq, Bool.false_eq_true, ex1, ex3, ex4, exF, qfit_i, qfit_l, qfit_r, qfit_n, qfit_b0, qfit_b1, qcat_i, qcat_r, qcat_n, qcat_l, qroom_0, qroom_c, List.map_cons, List.map_nil, List.sum_cons, List.sum_nil, Nat.reduceAdd, Nat.reduceMul, Nat.reduceLT, Nat.reduceLeDiff, Nat.reduceEqDiff, Nat.reduceSub, decide_true, true_and, and_true, and_self, if_true, if_false, Option.toList_some, Option.toList_none, List.cons_append, List.nil_append, qsL, qlong, List.length_cons, List.length_nil, iN_L, vM1, vM2, exI, iN_add, iN_mul, iN_le, iN_lt, iN_eq, Nat.le_refl, qfN0, qfN1, s_isBody0 (d := d + 1) s B hx]
/-- in a body, or on it -/
noncomputable def inBd (bs : List bdy) (i : Nat) (Qv : Nat → Nat → Int) (p : pt4) : Bool := allN (fun j => decide (ovZ (Qv j) (dmn bs i) p 1 ≤ 0)) (fct bs i).length
theorem whrZ_in {i : Nat} {Qv : Nat → Nat → Int} {p : pt4} {v : Int32} (hD : dmn bs i ≤ 4) (w : whrZ bs i Qv p v) : (v = -1) ↔ inBd bs i Qv p = false := by
  have neg : ∀ k, k ≤ 4 → ¬ iN k = -1 := by decide
  have key : inBd bs i Qv p = true ↔ ∀ j, j < (fct bs i).length → ovZ (Qv j) (dmn bs i) p 1 ≤ 0 := by
    unfold inBd
    rw [allN_iff]
    exact ⟨fun q j hj => of_decide_eq_true (q j hj), fun q j hj => decide_eq_true (q j hj)⟩
  have kf : inBd bs i Qv p = false ↔ ¬ ∀ j, j < (fct bs i).length → ovZ (Qv j) (dmn bs i) p 1 ≤ 0 := by
    rw [← key]
    cases inBd bs i Qv p <;> simp
  rw [kf]
  rcases w with ⟨⟨j, h1, h2⟩, rfl⟩ | ⟨h1, rfl⟩ | ⟨h1, -, k, ⟨h2, -, -⟩, rfl⟩
  · exact ⟨fun _ q => by have := q j h1; omega, fun _ => rfl⟩
  · exact ⟨fun z => absurd z (neg _ hD), fun z => absurd (fun j hj => Int.le_of_lt (h1 j hj)) z⟩
  · exact ⟨fun z => absurd z (neg _ (by omega)), fun z => absurd h1 z⟩
noncomputable def hldR (bs : List bdy) (x y v : Int32) : Prop := (¬ ((∃ i, i < bs.length ∧ x = iN i) ∧ ∃ j, j < bs.length ∧ y = iN j) ∧ v = -1001) ∨ ∃ i j, (i < bs.length ∧ x = iN i) ∧ (j < bs.length ∧ y = iN j) ∧ ((dmn bs i ≠ dmn bs j ∧ v = -1002) ∨ (dmn bs i = dmn bs j ∧ ∃ Qv, plA bs i Qv ∧ v = iN (cntN (fun c => inBd bs i Qv ((cnr bs j).getD c z4)) (cnr bs j).length)))
set_option maxRecDepth 100000 in
set_option maxHeartbeats 16000000 in
theorem s_holds (s : ShM h) (B : BsM h bs) (x y : Int32) : ∃ v, (∀ R, qMC (d + 4) 282 [.ref 55, .int x, .int y] h R ↔ R = (some (.int v), h)) ∧ hldR bs x y v := by
  have n1 : ¬ (1 : Int32) = iN 0 := by decide
  by_cases hx : ∃ i, i < bs.length ∧ x = iN i
  · by_cases hy : ∃ j, j < bs.length ∧ y = iN j
    · obtain ⟨i, hi', rfl⟩ := id hx
      obtain ⟨j, hj, rfl⟩ := id hy
      have b24 := B.1
      obtain ⟨di, di2, di4⟩ := B.dim hi'
      obtain ⟨dj, dj2, dj4⟩ := B.dim hj
      by_cases he : dmn bs i = dmn bs j
      · obtain ⟨Qv, pv⟩ := B.pl hi'
        have cv := B.corn hj
        have cl := cv.2.1
        refine ⟨_, fun R => ?_, Or.inr ⟨i, j, ⟨hi', rfl⟩, ⟨hj, rfl⟩, Or.inr ⟨he, Qv, pv.a, rfl⟩⟩⟩
        rw [← he] at dj
        have r0 : qMC (d + 4) 282 [.ref 55, .int (iN i), .int (iN j)] h R ↔ qEv (d + 3) 0 qk_282 44 [some (.ref 55), some (.int (iN i)), some (.int (iN j)), some (.int (iN (cntN (fun c => inBd bs i Qv ((cnr bs j).getD c z4)) 0))), some (.int (iN 0))] [] h R := by
          simp (disch := first | assumption | omega) only [e282_0, e282_1, e282_2, e282_5, e282_8, e282_9, e282_10, e282_13, e282_16, e282_19, e282_20, e282_21, e282_24, e282_25, e282_26, e282_27, e282_30, e282_31, e282_32, e282_35, e282_38, e282_39, e282_40, e282_41, e282_42, e282_46, e282_47, e282_50, e282_51, e282_52, e282_55, e282_56, e282_57, e282_58, e282_59, e282_60, e282_62, e282_63, e282_66, e282_67, e282_68, e282_70, e282_71, e282_74, e282_75, e282_76, e282_78, e282_79, e282_82, e282_83, e282_84, e282_86, e282_87, e282_90, e282_93, e282_94, e282_97, e282_98, e282_101, e282_102, e282_103, e282_104, e282_107, e282_110, e282_111, m282, ↓reduceIte, qg_0, qg_1, qg_2, qg_3, qg_4, qg_5, qg_6, qg_7, qg_8, qg_9, qg_10, qg_11, qg_12, qg_13, not_true_eq_false, not_false_eq_true, Nat.reduceBEq, Bool.false_eq_true, ex1, ex3, ex4, exF, qfit_i, qfit_l, qfit_r, qfit_n, qfit_b0, qfit_b1, qcat_i, qcat_r, qcat_n, qcat_l, qroom_0, qroom_c, List.map_cons, List.map_nil, List.sum_cons, List.sum_nil, Nat.reduceAdd, Nat.reduceMul, Nat.reduceLT, Nat.reduceLeDiff, Nat.reduceEqDiff, Nat.reduceSub, decide_true, true_and, and_true, and_self, if_true, if_false, Option.toList_some, Option.toList_none, List.cons_append, List.nil_append, qsL, qlong, List.length_cons, List.length_nil, iN_L, vM1, vM2, exI, iN_add, iN_mul, iN_le, iN_lt, iN_eq, Nat.le_refl, qfN0, qfN1, s_isBody1 (d := d + 1) s B hx, s_isBody1 (d := d + 1) s B hy, n1, gM_1, rM_56, di, dj]
          exact Iff.rfl
        rw [r0]
        refine Iff.trans (loop_up (n := (cnr bs j).length) (L := fun c => [some (.ref 55), some (.int (iN i)), some (.int (iN j)), some (.int (iN (cntN (fun c => inBd bs i Qv ((cnr bs j).getD c z4)) c))), some (.int (iN c))]) (H := fun _ => h) ?_) ?_
        · intro c hc
          try dsimp only
          have hp : smN8 ((cnr bs j).getD c z4) := fun k hk => by
            have := (cv.2.2 c hc k hk).2
            unfold lP at this
            omega
          obtain ⟨v, r, w⟩ := s_whereIs (d := d) (p := (cnr bs j).getD c z4) s B hi' pv hp
          have r' : ∀ R, qMC (d + 3) 279 [.ref 55, .int (iN i), .int (iZ (lP (cnr bs j) c 0)), .int (iZ (lP (cnr bs j) c 1)), .int (iZ (lP (cnr bs j) c 2)), .int (iZ (lP (cnr bs j) c 3))] h R ↔ R = (some (.int v), h) := r
          have wi := whrZ_in di4 w
          have x0 := cv.at hc (show 0 < 4 by decide)
          have x1 := cv.at hc (show 1 < 4 by decide)
          have x2 := cv.at hc (show 2 < 4 by decide)
          have x3 := cv.at hc (show 3 < 4 by decide)
          have cn := cntN_le (p := fun c => inBd bs i Qv ((cnr bs j).getD c z4)) (n := c)
          rw [e282_44, cntN]
          cases q : inBd bs i Qv ((cnr bs j).getD c z4) with
          | false =>
            have ev : v = -iN 1 := wi.mpr q
            rw [ev] at r'
            rw [if_neg Bool.false_ne_true, Nat.add_zero]
            simp (disch := first | assumption | omega) only [e282_0, e282_1, e282_2, e282_5, e282_8, e282_9, e282_10, e282_13, e282_16, e282_19, e282_20, e282_21, e282_24, e282_25, e282_26, e282_27, e282_30, e282_31, e282_32, e282_35, e282_38, e282_39, e282_40, e282_41, e282_42, e282_46, e282_47, e282_50, e282_51, e282_52, e282_55, e282_56, e282_57, e282_58, e282_59, e282_60, e282_62, e282_63, e282_66, e282_67, e282_68, e282_70, e282_71, e282_74, e282_75, e282_76, e282_78, e282_79, e282_82, e282_83, e282_84, e282_86, e282_87, e282_90, e282_93, e282_94, e282_97, e282_98, e282_101, e282_102, e282_103, e282_104, e282_107, e282_110, e282_111, m282, ↓reduceIte, qg_0, qg_1, qg_2, qg_3, qg_4, qg_5, qg_6, qg_7, qg_8, qg_9, qg_10, qg_11, qg_12, qg_13, not_true_eq_false, not_false_eq_true, Nat.reduceBEq, Bool.false_eq_true, ex1, ex3, ex4, exF, qfit_i, qfit_l, qfit_r, qfit_n, qfit_b0, qfit_b1, qcat_i, qcat_r, qcat_n, qcat_l, qroom_0, qroom_c, List.map_cons, List.map_nil, List.sum_cons, List.sum_nil, Nat.reduceAdd, Nat.reduceMul, Nat.reduceLT, Nat.reduceLeDiff, Nat.reduceEqDiff, Nat.reduceSub, decide_true, true_and, and_true, and_self, if_true, if_false, Option.toList_some, Option.toList_none, List.cons_append, List.nil_append, qsL, qlong, List.length_cons, List.length_nil, iN_L, vM1, vM2, exI, iN_add, iN_mul, iN_le, iN_lt, iN_eq, Nat.le_refl, qfN0, qfN1, gM_2, rM_57, cv.1, show ¬ (cnr bs j).length ≤ c by omega, s_x s, x0, x1, x2, x3, r', show ∀ z, iN z + iN 0 = iN z from fun z => iN_add z 0]
            exact Iff.rfl
          | true =>
            have ev : ¬ v = -iN 1 := fun z => by have := wi.mp z; rw [q] at this; cases this
            simp (disch := first | assumption | omega) only [e282_0, e282_1, e282_2, e282_5, e282_8, e282_9, e282_10, e282_13, e282_16, e282_19, e282_20, e282_21, e282_24, e282_25, e282_26, e282_27, e282_30, e282_31, e282_32, e282_35, e282_38, e282_39, e282_40, e282_41, e282_42, e282_46, e282_47, e282_50, e282_51, e282_52, e282_55, e282_56, e282_57, e282_58, e282_59, e282_60, e282_62, e282_63, e282_66, e282_67, e282_68, e282_70, e282_71, e282_74, e282_75, e282_76, e282_78, e282_79, e282_82, e282_83, e282_84, e282_86, e282_87, e282_90, e282_93, e282_94, e282_97, e282_98, e282_101, e282_102, e282_103, e282_104, e282_107, e282_110, e282_111, m282, ↓reduceIte, qg_0, qg_1, qg_2, qg_3, qg_4, qg_5, qg_6, qg_7, qg_8, qg_9, qg_10, qg_11, qg_12, qg_13, not_true_eq_false, not_false_eq_true, Nat.reduceBEq, Bool.false_eq_true, ex1, ex3, ex4, exF, qfit_i, qfit_l, qfit_r, qfit_n, qfit_b0, qfit_b1, qcat_i, qcat_r, qcat_n, qcat_l, qroom_0, qroom_c, List.map_cons, List.map_nil, List.sum_cons, List.sum_nil, Nat.reduceAdd, Nat.reduceMul, Nat.reduceLT, Nat.reduceLeDiff, Nat.reduceEqDiff, Nat.reduceSub, decide_true, true_and, and_true, and_self, if_true, if_false, Option.toList_some, Option.toList_none, List.cons_append, List.nil_append, qsL, qlong, List.length_cons, List.length_nil, iN_L, vM1, vM2, exI, iN_add, iN_mul, iN_le, iN_lt, iN_eq, Nat.le_refl, qfN0, qfN1, gM_2, rM_57, cv.1, show ¬ (cnr bs j).length ≤ c by omega, s_x s, x0, x1, x2, x3, r', ev, if_true]
        · try dsimp only
          rw [e282_44]
          simp (disch := first | assumption | omega) only [e282_0, e282_1, e282_2, e282_5, e282_8, e282_9, e282_10, e282_13, e282_16, e282_19, e282_20, e282_21, e282_24, e282_25, e282_26, e282_27, e282_30, e282_31, e282_32, e282_35, e282_38, e282_39, e282_40, e282_41, e282_42, e282_46, e282_47, e282_50, e282_51, e282_52, e282_55, e282_56, e282_57, e282_58, e282_59, e282_60, e282_62, e282_63, e282_66, e282_67, e282_68, e282_70, e282_71, e282_74, e282_75, e282_76, e282_78, e282_79, e282_82, e282_83, e282_84, e282_86, e282_87, e282_90, e282_93, e282_94, e282_97, e282_98, e282_101, e282_102, e282_103, e282_104, e282_107, e282_110, e282_111, m282, ↓reduceIte, qg_0, qg_1, qg_2, qg_3, qg_4, qg_5, qg_6, qg_7, qg_8, qg_9, qg_10, qg_11, qg_12, qg_13, not_true_eq_false, not_false_eq_true, Nat.reduceBEq, Bool.false_eq_true, ex1, ex3, ex4, exF, qfit_i, qfit_l, qfit_r, qfit_n, qfit_b0, qfit_b1, qcat_i, qcat_r, qcat_n, qcat_l, qroom_0, qroom_c, List.map_cons, List.map_nil, List.sum_cons, List.sum_nil, Nat.reduceAdd, Nat.reduceMul, Nat.reduceLT, Nat.reduceLeDiff, Nat.reduceEqDiff, Nat.reduceSub, decide_true, true_and, and_true, and_self, if_true, if_false, Option.toList_some, Option.toList_none, List.cons_append, List.nil_append, qsL, qlong, List.length_cons, List.length_nil, iN_L, vM1, vM2, exI, iN_add, iN_mul, iN_le, iN_lt, iN_eq, Nat.le_refl, qfN0, qfN1, gM_2, rM_57, cv.1]
      · refine ⟨-1002, fun R => ?_, Or.inr ⟨i, j, ⟨hi', rfl⟩, ⟨hj, rfl⟩, Or.inl ⟨he, rfl⟩⟩⟩
        simp (disch := first | assumption | omega) only [e282_0, e282_1, e282_2, e282_5, e282_8, e282_9, e282_10, e282_13, e282_16, e282_19, e282_20, e282_21, e282_24, e282_25, e282_26, e282_27, e282_30, e282_31, e282_32, e282_35, e282_38, e282_39, e282_40, e282_41, e282_42, e282_46, e282_47, e282_50, e282_51, e282_52, e282_55, e282_56, e282_57, e282_58, e282_59, e282_60, e282_62, e282_63, e282_66, e282_67, e282_68, e282_70, e282_71, e282_74, e282_75, e282_76, e282_78, e282_79, e282_82, e282_83, e282_84, e282_86, e282_87, e282_90, e282_93, e282_94, e282_97, e282_98, e282_101, e282_102, e282_103, e282_104, e282_107, e282_110, e282_111, m282, ↓reduceIte, qg_0, qg_1, qg_2, qg_3, qg_4, qg_5, qg_6, qg_7, qg_8, qg_9, qg_10, qg_11, qg_12, qg_13, not_true_eq_false, not_false_eq_true, Nat.reduceBEq, Bool.false_eq_true, ex1, ex3, ex4, exF, qfit_i, qfit_l, qfit_r, qfit_n, qfit_b0, qfit_b1, qcat_i, qcat_r, qcat_n, qcat_l, qroom_0, qroom_c, List.map_cons, List.map_nil, List.sum_cons, List.sum_nil, Nat.reduceAdd, Nat.reduceMul, Nat.reduceLT, Nat.reduceLeDiff, Nat.reduceEqDiff, Nat.reduceSub, decide_true, true_and, and_true, and_self, if_true, if_false, Option.toList_some, Option.toList_none, List.cons_append, List.nil_append, qsL, qlong, List.length_cons, List.length_nil, iN_L, vM1, vM2, exI, iN_add, iN_mul, iN_le, iN_lt, iN_eq, Nat.le_refl, qfN0, qfN1, s_isBody1 (d := d + 1) s B hx, s_isBody1 (d := d + 1) s B hy, n1, gM_1, rM_56, di, dj, he]
    · refine ⟨-1001, fun R => ?_, Or.inl ⟨fun z => hy z.2, rfl⟩⟩
      simp (disch := first | assumption | omega) only [e282_0, e282_1, e282_2, e282_5, e282_8, e282_9, e282_10, e282_13, e282_16, e282_19, e282_20, e282_21, e282_24, e282_25, e282_26, e282_27, e282_30, e282_31, e282_32, e282_35, e282_38, e282_39, e282_40, e282_41, e282_42, e282_46, e282_47, e282_50, e282_51, e282_52, e282_55, e282_56, e282_57, e282_58, e282_59, e282_60, e282_62, e282_63, e282_66, e282_67, e282_68, e282_70, e282_71, e282_74, e282_75, e282_76, e282_78, e282_79, e282_82, e282_83, e282_84, e282_86, e282_87, e282_90, e282_93, e282_94, e282_97, e282_98, e282_101, e282_102, e282_103, e282_104, e282_107, e282_110, e282_111, m282, ↓reduceIte, qg_0, qg_1, qg_2, qg_3, qg_4, qg_5, qg_6, qg_7, qg_8, qg_9, qg_10, qg_11, qg_12, qg_13, not_true_eq_false, not_false_eq_true, Nat.reduceBEq, Bool.false_eq_true, ex1, ex3, ex4, exF, qfit_i, qfit_l, qfit_r, qfit_n, qfit_b0, qfit_b1, qcat_i, qcat_r, qcat_n, qcat_l, qroom_0, qroom_c, List.map_cons, List.map_nil, List.sum_cons, List.sum_nil, Nat.reduceAdd, Nat.reduceMul, Nat.reduceLT, Nat.reduceLeDiff, Nat.reduceEqDiff, Nat.reduceSub, decide_true, true_and, and_true, and_self, if_true, if_false, Option.toList_some, Option.toList_none, List.cons_append, List.nil_append, qsL, qlong, List.length_cons, List.length_nil, iN_L, vM1, vM2, exI, iN_add, iN_mul, iN_le, iN_lt, iN_eq, Nat.le_refl, qfN0, qfN1, s_isBody1 (d := d + 1) s B hx, s_isBody0 (d := d + 1) s B hy, n1]
  · refine ⟨-1001, fun R => ?_, Or.inl ⟨fun z => hx z.1, rfl⟩⟩
    simp (disch := first | assumption | omega) only [e282_0, e282_1, e282_2, e282_5, e282_8, e282_9, e282_10, e282_13, e282_16, e282_19, e282_20, e282_21, e282_24, e282_25, e282_26, e282_27, e282_30, e282_31, e282_32, e282_35, e282_38, e282_39, e282_40, e282_41, e282_42, e282_46, e282_47, e282_50, e282_51, e282_52, e282_55, e282_56, e282_57, e282_58, e282_59, e282_60, e282_62, e282_63, e282_66, e282_67, e282_68, e282_70, e282_71, e282_74, e282_75, e282_76, e282_78, e282_79, e282_82, e282_83, e282_84, e282_86, e282_87, e282_90, e282_93, e282_94, e282_97, e282_98, e282_101, e282_102, e282_103, e282_104, e282_107, e282_110, e282_111, m282, ↓reduceIte, qg_0, qg_1, qg_2, qg_3, qg_4, qg_5, qg_6, qg_7, qg_8, qg_9, qg_10, qg_11, qg_12, qg_13, not_true_eq_false, not_false_eq_true, Nat.reduceBEq, Bool.false_eq_true, ex1, ex3, ex4, exF, qfit_i, qfit_l, qfit_r, qfit_n, qfit_b0, qfit_b1, qcat_i, qcat_r, qcat_n, qcat_l, qroom_0, qroom_c, List.map_cons, List.map_nil, List.sum_cons, List.sum_nil, Nat.reduceAdd, Nat.reduceMul, Nat.reduceLT, Nat.reduceLeDiff, Nat.reduceEqDiff, Nat.reduceSub, decide_true, true_and, and_true, and_self, if_true, if_false, Option.toList_some, Option.toList_none, List.cons_append, List.nil_append, qsL, qlong, List.length_cons, List.length_nil, iN_L, vM1, vM2, exI, iN_add, iN_mul, iN_le, iN_lt, iN_eq, Nat.le_refl, qfN0, qfN1, s_isBody0 (d := d + 1) s B hx]
end PARTED

/-! ===== THE CLASS: claim ===== -/
section XCLAIM2
variable {d : Nat} {h : qH} {bs : List bdy} {sa : Nat → Nat} {R : qRes} {cm : List clm}
set_option maxRecDepth 100000 in
set_option maxHeartbeats 16000000 in
theorem x_claim {x v : Int32} (s : ShX h) (X : BsX h bs sa) (vc : CmX h cm) (g : cmG cm) (hv : claR bs cm x v) : qMC (d + 3) 174 [.ref 16, .int x] h R ↔ R = (some (.int v), h) := by
  have m1 := vc.2
  have l8 := vc.1.1
  have b24 := X.1
  have mb := X.2.1
  rcases hv with ⟨hx, rfl⟩ | ⟨k, ⟨hk, rfl⟩, hv⟩
  · rw [lt_cnt (by omega)] at hx
    by_cases q1 : x < iN 0
    · simp (disch := first | assumption | omega) only [e174_0, e174_1, e174_4, e174_5, e174_6, e174_9, e174_12, e174_15, e174_18, e174_19, e174_20, e174_23, e174_24, e174_27, e174_28, e174_29, e174_30, e174_33, e174_36, e174_37, e174_38, e174_39, e174_40, e174_43, e174_44, e174_47, e174_48, e174_49, e174_50, e174_51, e174_54, e174_55, e174_58, e174_61, e174_62, e174_63, e174_64, e174_66, e174_67, e174_71, e174_73, e174_76, e174_77, e174_79, e174_82, e174_84, e174_86, e174_86N, e174_89, e174_90, e174_93, e174_94, e174_96, e174_99, e174_102, e174_104, e174_106, e174_107, e174_108, e174_111, e174_114, e174_115, m174, ↓reduceIte, qg_0, qg_1, qg_2, qg_3, qg_4, qg_5, qg_6, qg_7, qg_8, qg_9, qg_10, qg_11, qg_12, qg_13, not_true_eq_false, not_false_eq_true, Nat.reduceBEq, Bool.false_eq_true, ex1, ex3, ex4, exF, qfit_i, qfit_l, qfit_r, qfit_n, qfit_b0, qfit_b1, qcat_i, qcat_r, qcat_n, qcat_l, qroom_0, qroom_c, List.map_cons, List.map_nil, List.sum_cons, List.sum_nil, Nat.reduceAdd, Nat.reduceMul, Nat.reduceLT, Nat.reduceLeDiff, Nat.reduceEqDiff, Nat.reduceSub, decide_true, true_and, and_true, and_self, if_true, if_false, Option.toList_some, Option.toList_none, List.cons_append, List.nil_append, qsL, qlong, List.length_cons, List.length_nil, iN_L, exI, iN_add, iN_mul, iN_le, iN_lt, iN_eq, Nat.le_refl, qfN0, qfN1, uX_16, vX_16, uX_19, vX_19, uX_27, vX_27, uX_30, vX_30, uX_39, vX_39, uX_41, vX_41, uX_43, vX_43, uX_46, vX_46, uX_50, vX_50, uX_53, vX_53, q1]
    · have q2 : ¬ x < iN cm.length := fun w => hx ⟨q1, Int32.not_le.mpr w⟩
      simp (disch := first | assumption | omega) only [e174_0, e174_1, e174_4, e174_5, e174_6, e174_9, e174_12, e174_15, e174_18, e174_19, e174_20, e174_23, e174_24, e174_27, e174_28, e174_29, e174_30, e174_33, e174_36, e174_37, e174_38, e174_39, e174_40, e174_43, e174_44, e174_47, e174_48, e174_49, e174_50, e174_51, e174_54, e174_55, e174_58, e174_61, e174_62, e174_63, e174_64, e174_66, e174_67, e174_71, e174_73, e174_76, e174_77, e174_79, e174_82, e174_84, e174_86, e174_86N, e174_89, e174_90, e174_93, e174_94, e174_96, e174_99, e174_102, e174_104, e174_106, e174_107, e174_108, e174_111, e174_114, e174_115, m174, ↓reduceIte, qg_0, qg_1, qg_2, qg_3, qg_4, qg_5, qg_6, qg_7, qg_8, qg_9, qg_10, qg_11, qg_12, qg_13, not_true_eq_false, not_false_eq_true, Nat.reduceBEq, Bool.false_eq_true, ex1, ex3, ex4, exF, qfit_i, qfit_l, qfit_r, qfit_n, qfit_b0, qfit_b1, qcat_i, qcat_r, qcat_n, qcat_l, qroom_0, qroom_c, List.map_cons, List.map_nil, List.sum_cons, List.sum_nil, Nat.reduceAdd, Nat.reduceMul, Nat.reduceLT, Nat.reduceLeDiff, Nat.reduceEqDiff, Nat.reduceSub, decide_true, true_and, and_true, and_self, if_true, if_false, Option.toList_some, Option.toList_none, List.cons_append, List.nil_append, qsL, qlong, List.length_cons, List.length_nil, iN_L, exI, iN_add, iN_mul, iN_le, iN_lt, iN_eq, Nat.le_refl, qfN0, qfN1, uX_16, vX_16, uX_19, vX_19, uX_27, vX_27, uX_30, vX_30, uX_39, vX_39, uX_41, vX_41, uX_43, vX_43, uX_46, vX_46, uX_50, vX_50, uX_53, vX_53, q1, gX_16_12, gX_53_1, m1, q2]
  · obtain ⟨c9, -, -, -⟩ := cmG_at g hk
    have a0 : qiald h 54 (iN (k * 4)) = some (bV (cm.getD k c0m).1) := vc.at (j := 0) s hk (by decide)
    have bo : ∀ R, qMC (d + 2) 2 [.ref 53, .int (iN k)] h R ↔ R = (some (.int (bV (cm.getD k c0m).1)), h) := fun R => by
      simp (disch := first | assumption | omega) only [e2_0, e2_1, e2_4, e2_5, e2_6, e2_7, e2_8, m2, ↓reduceIte, qg_0, qg_1, qg_2, qg_3, qg_4, qg_5, qg_6, qg_7, qg_8, qg_9, qg_10, qg_11, qg_12, qg_13, not_true_eq_false, not_false_eq_true, Nat.reduceBEq, Bool.false_eq_true, ex1, ex3, ex4, exF, qfit_i, qfit_l, qfit_r, qfit_n, qfit_b0, qfit_b1, qcat_i, qcat_r, qcat_n, qcat_l, qroom_0, qroom_c, List.map_cons, List.map_nil, List.sum_cons, List.sum_nil, Nat.reduceAdd, Nat.reduceMul, Nat.reduceLT, Nat.reduceLeDiff, Nat.reduceEqDiff, Nat.reduceSub, decide_true, true_and, and_true, and_self, if_true, if_false, Option.toList_some, Option.toList_none, List.cons_append, List.nil_append, qsL, qlong, List.length_cons, List.length_nil, iN_L, exI, iN_add, iN_mul, iN_le, iN_lt, iN_eq, Nat.le_refl, qfN0, qfN1, uX_16, vX_16, uX_19, vX_19, uX_27, vX_27, uX_30, vX_30, uX_39, vX_39, uX_41, vX_41, uX_43, vX_43, uX_46, vX_46, uX_50, vX_50, uX_53, vX_53, gX_53_0, a0]
    have it : ∀ i, i < bs.length → ∀ R, qMC (d + 2) 3 [.ref 53, .int (iN k), .ref (sa i)] h R ↔ R = (some (.int (bB (hldB (cm.getD k c0m) (cel bs i (cm.getD k c0m).2.1).length))), h) := fun i hi' R => x_isTrueOf s X vc g hk hi'
    have ba : ∀ i, i < bs.length → ∀ R, qMC (d + 2) 179 [.ref 16, .int (iN i)] h R ↔ R = (some (.ref (sa i)), h) := fun i hi' R => x_bodyAt1 s X hi'
    obtain ⟨c, ec⟩ : ∃ c, c = cm.getD k c0m := ⟨_, rfl⟩
    rw [← ec] at c9 bo it hv
    -- one body
    have one : ∀ (i e f : Nat) (ab : Int32) (x6 : Option Value), i < bs.length → i < e → e ≤ 24 → ((hldB c (cel bs i c.2.1).length = false → (qEv (d + 2) 0 qk_174 69 [some (.ref 16), some (.int (iN k)), some (.int ab), some (.int (iN f)), some (.int (iN e)), some (.int (iN i)), x6] [] h R ↔ R = (some (.int (iN (100 + i))), h))) ∧ (hldB c (cel bs i c.2.1).length = true → (qEv (d + 2) 0 qk_174 69 [some (.ref 16), some (.int (iN k)), some (.int ab), some (.int (iN f)), some (.int (iN e)), some (.int (iN i)), x6] [] h R ↔ qEv (d + 2) 0 qk_174 69 [some (.ref 16), some (.int (iN k)), some (.int ab), some (.int (iN f)), some (.int (iN e)), some (.int (iN (i + 1))), some (.ref (sa i))] [] h R))) := by
      intro i e f ab x6 hi' hie he
      have iti := it i hi'
      have bai := ba i hi'
      refine ⟨fun z => ?_, fun z => ?_⟩
      · rw [z, bN_f] at iti
        rw [e174_69]
        simp (disch := first | assumption | omega) only [e174_0, e174_1, e174_4, e174_5, e174_6, e174_9, e174_12, e174_15, e174_18, e174_19, e174_20, e174_23, e174_24, e174_27, e174_28, e174_29, e174_30, e174_33, e174_36, e174_37, e174_38, e174_39, e174_40, e174_43, e174_44, e174_47, e174_48, e174_49, e174_50, e174_51, e174_54, e174_55, e174_58, e174_61, e174_62, e174_63, e174_64, e174_66, e174_67, e174_71, e174_73, e174_76, e174_77, e174_79, e174_82, e174_84, e174_86, e174_86N, e174_89, e174_90, e174_93, e174_94, e174_96, e174_99, e174_102, e174_104, e174_106, e174_107, e174_108, e174_111, e174_114, e174_115, m174, ↓reduceIte, qg_0, qg_1, qg_2, qg_3, qg_4, qg_5, qg_6, qg_7, qg_8, qg_9, qg_10, qg_11, qg_12, qg_13, not_true_eq_false, not_false_eq_true, Nat.reduceBEq, Bool.false_eq_true, ex1, ex3, ex4, exF, qfit_i, qfit_l, qfit_r, qfit_n, qfit_b0, qfit_b1, qcat_i, qcat_r, qcat_n, qcat_l, qroom_0, qroom_c, List.map_cons, List.map_nil, List.sum_cons, List.sum_nil, Nat.reduceAdd, Nat.reduceMul, Nat.reduceLT, Nat.reduceLeDiff, Nat.reduceEqDiff, Nat.reduceSub, decide_true, true_and, and_true, and_self, if_true, if_false, Option.toList_some, Option.toList_none, List.cons_append, List.nil_append, qsL, qlong, List.length_cons, List.length_nil, iN_L, exI, iN_add, iN_mul, iN_le, iN_lt, iN_eq, Nat.le_refl, qfN0, qfN1, uX_16, vX_16, uX_19, vX_19, uX_27, vX_27, uX_30, vX_30, uX_39, vX_39, uX_41, vX_41, uX_43, vX_43, uX_46, vX_46, uX_50, vX_50, uX_53, vX_53, show ¬ e ≤ i by omega, bai, gX_16_12, iti]
      · rw [z, bN_t] at iti
        rw [e174_69]
        simp (disch := first | assumption | omega) only [e174_0, e174_1, e174_4, e174_5, e174_6, e174_9, e174_12, e174_15, e174_18, e174_19, e174_20, e174_23, e174_24, e174_27, e174_28, e174_29, e174_30, e174_33, e174_36, e174_37, e174_38, e174_39, e174_40, e174_43, e174_44, e174_47, e174_48, e174_49, e174_50, e174_51, e174_54, e174_55, e174_58, e174_61, e174_62, e174_63, e174_64, e174_66, e174_67, e174_71, e174_73, e174_76, e174_77, e174_79, e174_82, e174_84, e174_86, e174_86N, e174_89, e174_90, e174_93, e174_94, e174_96, e174_99, e174_102, e174_104, e174_106, e174_107, e174_108, e174_111, e174_114, e174_115, m174, ↓reduceIte, qg_0, qg_1, qg_2, qg_3, qg_4, qg_5, qg_6, qg_7, qg_8, qg_9, qg_10, qg_11, qg_12, qg_13, not_true_eq_false, not_false_eq_true, Nat.reduceBEq, Bool.false_eq_true, ex1, ex3, ex4, exF, qfit_i, qfit_l, qfit_r, qfit_n, qfit_b0, qfit_b1, qcat_i, qcat_r, qcat_n, qcat_l, qroom_0, qroom_c, List.map_cons, List.map_nil, List.sum_cons, List.sum_nil, Nat.reduceAdd, Nat.reduceMul, Nat.reduceLT, Nat.reduceLeDiff, Nat.reduceEqDiff, Nat.reduceSub, decide_true, true_and, and_true, and_self, if_true, if_false, Option.toList_some, Option.toList_none, List.cons_append, List.nil_append, qsL, qlong, List.length_cons, List.length_nil, iN_L, exI, iN_add, iN_mul, iN_le, iN_lt, iN_eq, Nat.le_refl, qfN0, qfN1, uX_16, vX_16, uX_19, vX_19, uX_27, vX_27, uX_30, vX_30, uX_39, vX_39, uX_41, vX_41, uX_43, vX_43, uX_46, vX_46, uX_50, vX_50, uX_53, vX_53, show ¬ e ≤ i by omega, bai, gX_16_12, iti, iN10]
    have fin : ∀ (i e f : Nat) (ab : Int32) (x6 : Option Value), e ≤ i → i ≤ 24 → (qEv (d + 2) 0 qk_174 69 [some (.ref 16), some (.int (iN k)), some (.int ab), some (.int (iN f)), some (.int (iN e)), some (.int (iN i)), x6] [] h R ↔ R = (some (.int (iN 0)), h)) := by
      intro i e f ab x6 h1 h2
      rw [e174_69]
      simp (disch := first | assumption | omega) only [e174_0, e174_1, e174_4, e174_5, e174_6, e174_9, e174_12, e174_15, e174_18, e174_19, e174_20, e174_23, e174_24, e174_27, e174_28, e174_29, e174_30, e174_33, e174_36, e174_37, e174_38, e174_39, e174_40, e174_43, e174_44, e174_47, e174_48, e174_49, e174_50, e174_51, e174_54, e174_55, e174_58, e174_61, e174_62, e174_63, e174_64, e174_66, e174_67, e174_71, e174_73, e174_76, e174_77, e174_79, e174_82, e174_84, e174_86, e174_86N, e174_89, e174_90, e174_93, e174_94, e174_96, e174_99, e174_102, e174_104, e174_106, e174_107, e174_108, e174_111, e174_114, e174_115, m174, ↓reduceIte, qg_0, qg_1, qg_2, qg_3, qg_4, qg_5, qg_6, qg_7, qg_8, qg_9, qg_10, qg_11, qg_12, qg_13, not_true_eq_false, not_false_eq_true, Nat.reduceBEq, Bool.false_eq_true, ex1, ex3, ex4, exF, qfit_i, qfit_l, qfit_r, qfit_n, qfit_b0, qfit_b1, qcat_i, qcat_r, qcat_n, qcat_l, qroom_0, qroom_c, List.map_cons, List.map_nil, List.sum_cons, List.sum_nil, Nat.reduceAdd, Nat.reduceMul, Nat.reduceLT, Nat.reduceLeDiff, Nat.reduceEqDiff, Nat.reduceSub, decide_true, true_and, and_true, and_self, if_true, if_false, Option.toList_some, Option.toList_none, List.cons_append, List.nil_append, qsL, qlong, List.length_cons, List.length_nil, iN_L, exI, iN_add, iN_mul, iN_le, iN_lt, iN_eq, Nat.le_refl, qfN0, qfN1, uX_16, vX_16, uX_19, vX_19, uX_27, vX_27, uX_30, vX_30, uX_39, vX_39, uX_41, vX_41, uX_43, vX_43, uX_46, vX_46, uX_50, vX_50, uX_53, vX_53, h1]
    cases hc : c.1 with
    | none =>
      rw [hc, show bV none = -iN 1 from rfl] at bo
      have ng : -iN 1 < iN bs.length := by rw [Int32.lt_iff_toInt_lt, iN_int (by omega)]; show (-1 : Int) < _; omega
      have go : ∀ (w i : Nat) (x6 : Option Value), i + w = bs.length → (∀ j, j < i → brkB bs c j = false) → (qEv (d + 2) 0 qk_174 69 [some (.ref 16), some (.int (iN k)), some (.int (-iN 1)), some (.int (iN 0)), some (.int (iN bs.length)), some (.int (iN i)), x6] [] h R ↔ R = (some (.int v), h)) := by
        intro w
        induction w with
        | zero =>
          intro i x6 hi' hn
          rw [fin i bs.length 0 _ x6 (by omega) (by omega)]
          rcases hv with ⟨⟨b, b1, -⟩, -⟩ | ⟨-, ⟨-, rfl⟩ | ⟨i', i1, i2, -⟩⟩
          · rw [hc] at b1; cases b1
          · exact Iff.rfl
          · rw [hn i' (by omega)] at i2; cases i2
        | succ w ih =>
          intro i x6 hi' hn
          obtain ⟨o1, o2⟩ := one i bs.length 0 (-iN 1) x6 (by omega) (by omega) (by omega)
          have eb : brkB bs c i = !hldB c (cel bs i c.2.1).length := by unfold brkB; rw [hc]; rfl
          cases z : hldB c (cel bs i c.2.1).length with
          | true =>
            rw [o2 z]
            exact ih (i + 1) _ (by omega) (fun j hj => by
              rcases Nat.lt_or_ge j i with y | y
              · exact hn j y
              · rw [show j = i by omega, eb, z]; rfl)
          | false =>
            rw [o1 z]
            rw [z] at eb
            rcases hv with ⟨⟨b, b1, -⟩, -⟩ | ⟨-, ⟨h1, rfl⟩ | ⟨i', i1, i2, i3, rfl⟩⟩
            · rw [hc] at b1; cases b1
            · rw [h1 i (by omega)] at eb; cases eb
            · have : i' = i := by
                rcases Nat.lt_trichotomy i' i with y | y | y
                · rw [hn i' y] at i2; cases i2
                · exact y
                · rw [i3 i y] at eb; cases eb
              rw [this]
      rw [← go bs.length 0 none (by omega) (fun j hj => absurd hj (Nat.not_lt_zero j))]
      simp (disch := first | assumption | omega) only [e174_0, e174_1, e174_4, e174_5, e174_6, e174_9, e174_12, e174_15, e174_18, e174_19, e174_20, e174_23, e174_24, e174_27, e174_28, e174_29, e174_30, e174_33, e174_36, e174_37, e174_38, e174_39, e174_40, e174_43, e174_44, e174_47, e174_48, e174_49, e174_50, e174_51, e174_54, e174_55, e174_58, e174_61, e174_62, e174_63, e174_64, e174_66, e174_67, e174_71, e174_73, e174_76, e174_77, e174_79, e174_82, e174_84, e174_86, e174_86N, e174_89, e174_90, e174_93, e174_94, e174_96, e174_99, e174_102, e174_104, e174_106, e174_107, e174_108, e174_111, e174_114, e174_115, m174, ↓reduceIte, qg_0, qg_1, qg_2, qg_3, qg_4, qg_5, qg_6, qg_7, qg_8, qg_9, qg_10, qg_11, qg_12, qg_13, not_true_eq_false, not_false_eq_true, Nat.reduceBEq, Bool.false_eq_true, ex1, ex3, ex4, exF, qfit_i, qfit_l, qfit_r, qfit_n, qfit_b0, qfit_b1, qcat_i, qcat_r, qcat_n, qcat_l, qroom_0, qroom_c, List.map_cons, List.map_nil, List.sum_cons, List.sum_nil, Nat.reduceAdd, Nat.reduceMul, Nat.reduceLT, Nat.reduceLeDiff, Nat.reduceEqDiff, Nat.reduceSub, decide_true, true_and, and_true, and_self, if_true, if_false, Option.toList_some, Option.toList_none, List.cons_append, List.nil_append, qsL, qlong, List.length_cons, List.length_nil, iN_L, exI, iN_add, iN_mul, iN_le, iN_lt, iN_eq, Nat.le_refl, qfN0, qfN1, uX_16, vX_16, uX_19, vX_19, uX_27, vX_27, uX_30, vX_30, uX_39, vX_39, uX_41, vX_41, uX_43, vX_43, uX_46, vX_46, uX_50, vX_50, uX_53, vX_53, show ¬ k < 0 by omega, gX_16_12, gX_53_1, m1, hk, bo, gX_16_1, mb, ng]
    | some b =>
      have b99 := c9 b hc
      rw [hc, show bV (some b) = iN b from rfl] at bo
      have nm : ¬ iN b = -iN 1 := fun y => by
        have h1 := congrArg Int32.toInt y
        rw [iN_int (by omega), show (-iN 1).toInt = -1 from rfl] at h1
        omega
      by_cases hb : b < bs.length
      · have eb : brkB bs c b = !hldB c (cel bs b c.2.1).length := by unfold brkB; rw [hc]; show (decide (b = b) && _) = _; rw [decide_eq_true rfl]; rfl
        have eo : ∀ j, j ≠ b → brkB bs c j = false := fun j hj => by unfold brkB; rw [hc]; show (decide (j = b) && _) = _; rw [decide_eq_false hj]; rfl
        have r0 : qMC (d + 3) 174 [.ref 16, .int (iN k)] h R ↔ qEv (d + 2) 0 qk_174 69 [some (.ref 16), some (.int (iN k)), some (.int (iN b)), some (.int (iN b)), some (.int (iN (b + 1))), some (.int (iN b)), none] [] h R := by
          simp (disch := first | assumption | omega) only [e174_0, e174_1, e174_4, e174_5, e174_6, e174_9, e174_12, e174_15, e174_18, e174_19, e174_20, e174_23, e174_24, e174_27, e174_28, e174_29, e174_30, e174_33, e174_36, e174_37, e174_38, e174_39, e174_40, e174_43, e174_44, e174_47, e174_48, e174_49, e174_50, e174_51, e174_54, e174_55, e174_58, e174_61, e174_62, e174_63, e174_64, e174_66, e174_67, e174_71, e174_73, e174_76, e174_77, e174_79, e174_82, e174_84, e174_86, e174_86N, e174_89, e174_90, e174_93, e174_94, e174_96, e174_99, e174_102, e174_104, e174_106, e174_107, e174_108, e174_111, e174_114, e174_115, m174, ↓reduceIte, qg_0, qg_1, qg_2, qg_3, qg_4, qg_5, qg_6, qg_7, qg_8, qg_9, qg_10, qg_11, qg_12, qg_13, not_true_eq_false, not_false_eq_true, Nat.reduceBEq, Bool.false_eq_true, ex1, ex3, ex4, exF, qfit_i, qfit_l, qfit_r, qfit_n, qfit_b0, qfit_b1, qcat_i, qcat_r, qcat_n, qcat_l, qroom_0, qroom_c, List.map_cons, List.map_nil, List.sum_cons, List.sum_nil, Nat.reduceAdd, Nat.reduceMul, Nat.reduceLT, Nat.reduceLeDiff, Nat.reduceEqDiff, Nat.reduceSub, decide_true, true_and, and_true, and_self, if_true, if_false, Option.toList_some, Option.toList_none, List.cons_append, List.nil_append, qsL, qlong, List.length_cons, List.length_nil, iN_L, exI, iN_add, iN_mul, iN_le, iN_lt, iN_eq, Nat.le_refl, qfN0, qfN1, uX_16, vX_16, uX_19, vX_19, uX_27, vX_27, uX_30, vX_30, uX_39, vX_39, uX_41, vX_41, uX_43, vX_43, uX_46, vX_46, uX_50, vX_50, uX_53, vX_53, show ¬ k < 0 by omega, gX_16_12, gX_53_1, m1, hk, bo, gX_16_1, mb, hb, nm]
        obtain ⟨o1, o2⟩ := one b (b + 1) b (iN b) none hb (by omega) (by omega)
        rw [r0]
        cases z : hldB c (cel bs b c.2.1).length with
        | true =>
          rw [o2 z, fin (b + 1) (b + 1) b _ _ (Nat.le_refl _) (by omega)]
          rcases hv with ⟨⟨b', b1, b2⟩, -⟩ | ⟨-, ⟨-, rfl⟩ | ⟨i', i1, i2, -⟩⟩
          · rw [hc] at b1; cases b1; omega
          · exact Iff.rfl
          · by_cases y : i' = b
            · rw [y, eb, z] at i2; cases i2
            · rw [eo i' y] at i2; cases i2
        | false =>
          rw [o1 z]
          rw [z] at eb
          rcases hv with ⟨⟨b', b1, b2⟩, -⟩ | ⟨-, ⟨h1, -⟩ | ⟨i', i1, i2, i3, rfl⟩⟩
          · rw [hc] at b1; cases b1; omega
          · rw [h1 b hb] at eb; cases eb
          · have : i' = b := Classical.byContradiction fun y => by rw [eo i' y] at i2; cases i2
            rw [this]
      · have ve : v = -iN 1 := by
          rcases hv with ⟨-, e⟩ | ⟨h1, -⟩
          · exact e
          · exact absurd (h1 b hc) hb
        rw [ve]
        simp (disch := first | assumption | omega) only [e174_0, e174_1, e174_4, e174_5, e174_6, e174_9, e174_12, e174_15, e174_18, e174_19, e174_20, e174_23, e174_24, e174_27, e174_28, e174_29, e174_30, e174_33, e174_36, e174_37, e174_38, e174_39, e174_40, e174_43, e174_44, e174_47, e174_48, e174_49, e174_50, e174_51, e174_54, e174_55, e174_58, e174_61, e174_62, e174_63, e174_64, e174_66, e174_67, e174_71, e174_73, e174_76, e174_77, e174_79, e174_82, e174_84, e174_86, e174_86N, e174_89, e174_90, e174_93, e174_94, e174_96, e174_99, e174_102, e174_104, e174_106, e174_107, e174_108, e174_111, e174_114, e174_115, m174, ↓reduceIte, qg_0, qg_1, qg_2, qg_3, qg_4, qg_5, qg_6, qg_7, qg_8, qg_9, qg_10, qg_11, qg_12, qg_13, not_true_eq_false, not_false_eq_true, Nat.reduceBEq, Bool.false_eq_true, ex1, ex3, ex4, exF, qfit_i, qfit_l, qfit_r, qfit_n, qfit_b0, qfit_b1, qcat_i, qcat_r, qcat_n, qcat_l, qroom_0, qroom_c, List.map_cons, List.map_nil, List.sum_cons, List.sum_nil, Nat.reduceAdd, Nat.reduceMul, Nat.reduceLT, Nat.reduceLeDiff, Nat.reduceEqDiff, Nat.reduceSub, decide_true, true_and, and_true, and_self, if_true, if_false, Option.toList_some, Option.toList_none, List.cons_append, List.nil_append, qsL, qlong, List.length_cons, List.length_nil, iN_L, exI, iN_add, iN_mul, iN_le, iN_lt, iN_eq, Nat.le_refl, qfN0, qfN1, uX_16, vX_16, uX_19, vX_19, uX_27, vX_27, uX_30, vX_30, uX_39, vX_39, uX_41, vX_41, uX_43, vX_43, uX_46, vX_46, uX_50, vX_50, uX_53, vX_53, show ¬ k < 0 by omega, gX_16_12, gX_53_1, m1, hk, bo, gX_16_1, mb, hb]
set_option maxRecDepth 100000 in
set_option maxHeartbeats 16000000 in
theorem x_addC {c : clm} (s : ShX h) (vc : CmX h cm) (hl : cm.length < 8) : ∃ h', (∀ R, qMC (d + 1) 1 [.ref 53, .int (cmI c 0), .int (cmI c 1), .int (cmI c 2), .int (cmI c 3)] h R ↔ R = (none, h')) ∧ ChX [54] [(53, 1)] 0 h h' ∧ CmX h' (cm ++ [c]) := by
  obtain ⟨⟨l8, v⟩, mc⟩ := vc
  have k54 := kX_54 s
  have cR : ∀ G, ChX [54] [(53, 1)] 0 h (sI h 54 G) := fun G => ChX.rowI s k54 (by decide) (by decide)
  have sh : ∀ G, ShX (sI h 54 G) := fun G => (cR G).sh
  obtain ⟨G, eG⟩ : ∃ G, G = upd (upd (upd (upd (hi h 54) (cm.length * 4) (cmI c 0)) (cm.length * 4 + 1) (cmI c 1)) (cm.length * 4 + 2) (cmI c 2)) (cm.length * 4 + 3) (cmI c 3) := ⟨_, rfl⟩
  have sG := sh G
  have xs : ∀ G, xi (sI h 54 G) 53 1 = iN cm.length := fun G => by unfold xi; rw [hf_sI k54]; exact mc
  obtain ⟨h5, e5⟩ : ∃ h5, h5 = xV (sI h 54 G) 53 1 (.int (iN (cm.length + 1))) := ⟨_, rfl⟩
  have cI : ChX [54] [(53, 1)] 0 h h5 := (cR G).trans0 (by rw [e5]; exact ChX.setI sG (by decide) (by decide))
  have p5 : qput (sI h 54 G) 53 0 1 (.int (iN (cm.length + 1))) = some h5 := by rw [e5]; exact pX_53_1 sG
  refine ⟨h5, fun R => ?_, cI, ⟨by rw [len_add]; omega, fun k hk j hj => ?_⟩, by rw [e5, xi_xV, if_pos ⟨rfl, rfl⟩, len_add]⟩
  · simp (disch := first | assumption | omega | exact sh _) only [e1_0, e1_1, e1_4, e1_6, e1_9, e1_10, e1_13, e1_14, e1_17, e1_18, e1_19, e1_20, e1_21, e1_22, e1_25, e1_26, e1_29, e1_30, e1_31, e1_32, e1_33, e1_34, e1_35, e1_36, e1_39, e1_40, e1_43, e1_44, e1_45, e1_46, e1_47, e1_48, e1_49, e1_50, e1_53, e1_54, e1_57, e1_58, e1_59, e1_60, e1_61, e1_63, e1_64, e1_65, e1_66, e1_69, e1_70, e1_71, e1_74, m1, ↓reduceIte, qg_0, qg_1, qg_2, qg_3, qg_4, qg_5, qg_6, qg_7, qg_8, qg_9, qg_10, qg_11, qg_12, qg_13, not_true_eq_false, not_false_eq_true, Nat.reduceBEq, Bool.false_eq_true, ex1, ex3, ex4, exF, qfit_i, qfit_l, qfit_r, qfit_n, qfit_b0, qfit_b1, qcat_i, qcat_r, qcat_n, qcat_l, qroom_0, qroom_c, List.map_cons, List.map_nil, List.sum_cons, List.sum_nil, Nat.reduceAdd, Nat.reduceMul, Nat.reduceLT, Nat.reduceLeDiff, Nat.reduceEqDiff, Nat.reduceSub, decide_true, true_and, and_true, and_self, if_true, if_false, Option.toList_some, Option.toList_none, List.cons_append, List.nil_append, qsL, qlong, List.length_cons, List.length_nil, iN_L, exI, iN_add, iN_mul, iN_le, gX_53_1, gX_53_0, mc, show ¬ 8 ≤ cm.length by omega, wX_54, hi_sI, sI_sI, ← eG, xs, p5, uX_53, vX_53]
  · rw [len_add] at hk
    rw [e5, hi_xV (oX_53 sG), hi_sI, if_pos rfl, eG, getD_add]
    show (if 4 * k + j = cm.length * 4 + 3 then cmI c 3 else if 4 * k + j = cm.length * 4 + 2 then cmI c 2 else if 4 * k + j = cm.length * 4 + 1 then cmI c 1 else if 4 * k + j = cm.length * 4 then cmI c 0 else hi h 54 (4 * k + j)) = _
    by_cases e : k = cm.length
    · rw [if_pos e, e]
      match j, hj with
      | 0, _ => rw [if_neg (by omega), if_neg (by omega), if_neg (by omega), if_pos (by omega)]
      | 1, _ => rw [if_neg (by omega), if_neg (by omega), if_pos (by omega)]
      | 2, _ => rw [if_neg (by omega), if_pos (by omega)]
      | 3, _ => rw [if_pos (by omega)]
    · rw [if_neg e, if_neg (by omega), if_neg (by omega), if_neg (by omega), if_neg (by omega)]
      exact v k (by omega) j hj
end XCLAIM2

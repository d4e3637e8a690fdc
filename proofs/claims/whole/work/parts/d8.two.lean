/-! ===== THE REFERENCE: hasTwo, isJoined, patternSum ===== -/
section TWO
variable {d : Nat} {h : qH} {n : Nat} {ss : List Nat}
/-- a set less one of its points lies in just two sets -/
def twC (ss : List Nat) (k c : Nat) : Bool := !(ss.getD k 0).testBit c || decide (cntN (lyB ss (wo (ss.getD k 0) (2 ^ c))) ss.length = 2)
def twA (ss : List Nat) (n k : Nat) : Bool := allN (twC ss k) n
def twB (ss : List Nat) (n : Nat) : Bool := allN (twA ss n) ss.length
set_option maxRecDepth 100000 in
set_option maxHeartbeats 16000000 in
theorem s_hasTwo (s : ShM h) (v : PaV h n ss) (R : qRes) : qMC (d + 2) 256 [.ref 55] h R ↔ R = (some (.int (bB (twB ss n))), h) := by
  have v0 := v
  obtain ⟨⟨n3, n12⟩, l24, m32, m33, hs⟩ := v
  have p12 := pw12 n12
  have inner : ∀ (f0 : Bool) (k : Nat) (x4 : Option Value), k < ss.length → ∃ x3', ∀ R, qEv (d + 1) 3 qk_256 14 [some (.ref 55), some (.int (bB f0)), some (.int (iN k)), some (.int (iN 0)), x4] [] h R ↔ qEv (d + 1) 3 qk_256 4 [some (.ref 55), some (.int (bB (f0 && twA ss n k))), some (.int (iN (k + 1))), some (.int (iN n)), x3'] [] h R := by
    intro f0 k x4 hk
    obtain ⟨q1, q2, q3⟩ := hs k hk
    have : ∀ (w c : Nat) (x4 : Option Value), c + w = n → ∃ x3', ∀ R, qEv (d + 1) 3 qk_256 14 [some (.ref 55), some (.int (bB (f0 && allN (twC ss k) c))), some (.int (iN k)), some (.int (iN c)), x4] [] h R ↔ qEv (d + 1) 3 qk_256 4 [some (.ref 55), some (.int (bB (f0 && twA ss n k))), some (.int (iN (k + 1))), some (.int (iN n)), x3'] [] h R := by
      intro w
      induction w with
      | zero =>
        intro c x4 hc
        have e : c = n := by omega
        subst e
        refine ⟨x4, fun R => ?_⟩
        rw [e256_14]
        simp (disch := first | assumption | omega) only [e256_0, e256_1, e256_2, e256_3, e256_5, e256_6, e256_9, e256_12, e256_13, e256_15, e256_16, e256_19, e256_22, e256_23, e256_26, e256_27, e256_28, e256_29, e256_30, e256_31, e256_32, e256_33, e256_36, e256_37, e256_40, e256_41, e256_43, e256_44, e256_47, e256_49, e256_52, e256_53, e256_54, e256_57, e256_58, e256_59, e256_60, e256_61, e256_62, e256_63, e256_64, e256_65, e256_68, e256_69, e256_72, e256_73, e256_76, e256_77, e256_78, e256_81, e256_84, e256_87, e256_90, e256_91, m256, ↓reduceIte, qg_0, qg_1, qg_2, qg_3, qg_4, qg_5, qg_6, qg_7, qg_8, qg_9, qg_10, qg_11, qg_12, qg_13, not_true_eq_false, not_false_eq_true, Nat.reduceBEq, Bool.false_eq_true, ex1, ex3, ex4, exF, qfit_i, qfit_l, qfit_r, qfit_n, qfit_b0, qfit_b1, qcat_i, qcat_r, qcat_n, qcat_l, qroom_0, qroom_c, List.map_cons, List.map_nil, List.sum_cons, List.sum_nil, Nat.reduceAdd, Nat.reduceMul, Nat.reduceLT, Nat.reduceLeDiff, Nat.reduceEqDiff, Nat.reduceSub, decide_true, true_and, and_true, and_self, if_true, if_false, Option.toList_some, Option.toList_none, List.cons_append, List.nil_append, qsL, qlong, List.length_cons, List.length_nil, iN_L, vM1, vM2, exI, iN_add, iN_mul, iN_le, iN_lt, iN_eq, Nat.le_refl, qfN0, qfN1, gM_32, m32]
        exact Iff.rfl
      | succ w ih =>
        intro c x4 hc
        have hcn : c < n := by omega
        have wl := wo_le (ss.getD k 0) (2 ^ c)
        have im : ∀ R, qMC (d + 1) 255 [.ref 55, .int (iN (wo (ss.getD k 0) (2 ^ c)))] h R ↔ R = (some (.int (iN (cntN (lyB ss (wo (ss.getD k 0) (2 ^ c))) ss.length))), h) := fun R => s_inMany s v0 (by omega) R
        have cl : cntN (lyB ss (wo (ss.getD k 0) (2 ^ c))) ss.length ≤ ss.length := cntN_le
        obtain ⟨x3', r⟩ := ih (c + 1) (some (.int (bB ((ss.getD k 0).testBit c)))) (by omega)
        refine ⟨x3', fun R => ?_⟩
        rw [← r R, e256_14, allN, ← Bool.and_assoc]
        cases f0 && allN (twC ss k) c with
        | false =>
          rw [Bool.false_and, bN_f]
          cases hb : (ss.getD k 0).testBit c with
          | true =>
            have bt := bit1 (m := ss.getD k 0) (p := c) (by omega) (by omega) hb
            rw [bN_t]
            simp (disch := first | assumption | omega) only [e256_0, e256_1, e256_2, e256_3, e256_4, e256_5, e256_6, e256_9, e256_12, e256_13, e256_15, e256_16, e256_19, e256_22, e256_23, e256_26, e256_27, e256_28, e256_29, e256_30, e256_31, e256_32, e256_33, e256_36, e256_37, e256_40, e256_41, e256_43, e256_44, e256_47, e256_49, e256_52, e256_53, e256_54, e256_57, e256_58, e256_59, e256_60, e256_61, e256_62, e256_63, e256_64, e256_65, e256_68, e256_69, e256_72, e256_73, e256_76, e256_77, e256_78, e256_81, e256_84, e256_87, e256_90, e256_91, m256, ↓reduceIte, qg_0, qg_1, qg_2, qg_3, qg_4, qg_5, qg_6, qg_7, qg_8, qg_9, qg_10, qg_11, qg_12, qg_13, not_true_eq_false, not_false_eq_true, Nat.reduceBEq, Bool.false_eq_true, ex1, ex3, ex4, exF, qfit_i, qfit_l, qfit_r, qfit_n, qfit_b0, qfit_b1, qcat_i, qcat_r, qcat_n, qcat_l, qroom_0, qroom_c, List.map_cons, List.map_nil, List.sum_cons, List.sum_nil, Nat.reduceAdd, Nat.reduceMul, Nat.reduceLT, Nat.reduceLeDiff, Nat.reduceEqDiff, Nat.reduceSub, decide_true, true_and, and_true, and_self, if_true, if_false, Option.toList_some, Option.toList_none, List.cons_append, List.nil_append, qsL, qlong, List.length_cons, List.length_nil, iN_L, vM1, vM2, exI, iN_add, iN_mul, iN_le, iN_lt, iN_eq, Nat.le_refl, qfN0, qfN1, gM_32, m32, show ¬ n ≤ c by omega, gM_34, rM_80, q1, bt]
          | false =>
            have bt := bit0 (m := ss.getD k 0) (p := c) (by omega) (by omega) hb
            rw [bN_f]
            simp (disch := first | assumption | omega) only [e256_0, e256_1, e256_2, e256_3, e256_4, e256_5, e256_6, e256_9, e256_12, e256_13, e256_15, e256_16, e256_19, e256_22, e256_23, e256_26, e256_27, e256_28, e256_29, e256_30, e256_31, e256_32, e256_33, e256_36, e256_37, e256_40, e256_41, e256_43, e256_44, e256_47, e256_49, e256_52, e256_53, e256_54, e256_57, e256_58, e256_59, e256_60, e256_61, e256_62, e256_63, e256_64, e256_65, e256_68, e256_69, e256_72, e256_73, e256_76, e256_77, e256_78, e256_81, e256_84, e256_87, e256_90, e256_91, m256, ↓reduceIte, qg_0, qg_1, qg_2, qg_3, qg_4, qg_5, qg_6, qg_7, qg_8, qg_9, qg_10, qg_11, qg_12, qg_13, not_true_eq_false, not_false_eq_true, Nat.reduceBEq, Bool.false_eq_true, ex1, ex3, ex4, exF, qfit_i, qfit_l, qfit_r, qfit_n, qfit_b0, qfit_b1, qcat_i, qcat_r, qcat_n, qcat_l, qroom_0, qroom_c, List.map_cons, List.map_nil, List.sum_cons, List.sum_nil, Nat.reduceAdd, Nat.reduceMul, Nat.reduceLT, Nat.reduceLeDiff, Nat.reduceEqDiff, Nat.reduceSub, decide_true, true_and, and_true, and_self, if_true, if_false, Option.toList_some, Option.toList_none, List.cons_append, List.nil_append, qsL, qlong, List.length_cons, List.length_nil, iN_L, vM1, vM2, exI, iN_add, iN_mul, iN_le, iN_lt, iN_eq, Nat.le_refl, qfN0, qfN1, gM_32, m32, show ¬ n ≤ c by omega, gM_34, rM_80, q1, bt, show ¬ iN 0 = iN 1 by decide]
        | true =>
          rw [Bool.true_and]
          cases hb : (ss.getD k 0).testBit c with
          | true =>
            have bt := bit1 (m := ss.getD k 0) (p := c) (by omega) (by omega) hb
            by_cases e2 : cntN (lyB ss (wo (ss.getD k 0) (2 ^ c))) ss.length = 2
            · rw [show twC ss k c = true from by unfold twC; rw [hb, decide_eq_true e2]; rfl, bN_t]
              simp (disch := first | assumption | omega) only [e256_0, e256_1, e256_2, e256_3, e256_4, e256_5, e256_6, e256_9, e256_12, e256_13, e256_15, e256_16, e256_19, e256_22, e256_23, e256_26, e256_27, e256_28, e256_29, e256_30, e256_31, e256_32, e256_33, e256_36, e256_37, e256_40, e256_41, e256_43, e256_44, e256_47, e256_49, e256_52, e256_53, e256_54, e256_57, e256_58, e256_59, e256_60, e256_61, e256_62, e256_63, e256_64, e256_65, e256_68, e256_69, e256_72, e256_73, e256_76, e256_77, e256_78, e256_81, e256_84, e256_87, e256_90, e256_91, m256, ↓reduceIte, qg_0, qg_1, qg_2, qg_3, qg_4, qg_5, qg_6, qg_7, qg_8, qg_9, qg_10, qg_11, qg_12, qg_13, not_true_eq_false, not_false_eq_true, Nat.reduceBEq, Bool.false_eq_true, ex1, ex3, ex4, exF, qfit_i, qfit_l, qfit_r, qfit_n, qfit_b0, qfit_b1, qcat_i, qcat_r, qcat_n, qcat_l, qroom_0, qroom_c, List.map_cons, List.map_nil, List.sum_cons, List.sum_nil, Nat.reduceAdd, Nat.reduceMul, Nat.reduceLT, Nat.reduceLeDiff, Nat.reduceEqDiff, Nat.reduceSub, decide_true, true_and, and_true, and_self, if_true, if_false, Option.toList_some, Option.toList_none, List.cons_append, List.nil_append, qsL, qlong, List.length_cons, List.length_nil, iN_L, vM1, vM2, exI, iN_add, iN_mul, iN_le, iN_lt, iN_eq, Nat.le_refl, qfN0, qfN1, gM_32, m32, show ¬ n ≤ c by omega, gM_34, rM_80, q1, bt, iN10, iN_shl1, iN_wo', im, e2]
            · rw [show twC ss k c = false from by unfold twC; rw [hb, decide_eq_false e2]; rfl, bN_t, bN_f]
              simp (disch := first | assumption | omega) only [e256_0, e256_1, e256_2, e256_3, e256_4, e256_5, e256_6, e256_9, e256_12, e256_13, e256_15, e256_16, e256_19, e256_22, e256_23, e256_26, e256_27, e256_28, e256_29, e256_30, e256_31, e256_32, e256_33, e256_36, e256_37, e256_40, e256_41, e256_43, e256_44, e256_47, e256_49, e256_52, e256_53, e256_54, e256_57, e256_58, e256_59, e256_60, e256_61, e256_62, e256_63, e256_64, e256_65, e256_68, e256_69, e256_72, e256_73, e256_76, e256_77, e256_78, e256_81, e256_84, e256_87, e256_90, e256_91, m256, ↓reduceIte, qg_0, qg_1, qg_2, qg_3, qg_4, qg_5, qg_6, qg_7, qg_8, qg_9, qg_10, qg_11, qg_12, qg_13, not_true_eq_false, not_false_eq_true, Nat.reduceBEq, Bool.false_eq_true, ex1, ex3, ex4, exF, qfit_i, qfit_l, qfit_r, qfit_n, qfit_b0, qfit_b1, qcat_i, qcat_r, qcat_n, qcat_l, qroom_0, qroom_c, List.map_cons, List.map_nil, List.sum_cons, List.sum_nil, Nat.reduceAdd, Nat.reduceMul, Nat.reduceLT, Nat.reduceLeDiff, Nat.reduceEqDiff, Nat.reduceSub, decide_true, true_and, and_true, and_self, if_true, if_false, Option.toList_some, Option.toList_none, List.cons_append, List.nil_append, qsL, qlong, List.length_cons, List.length_nil, iN_L, vM1, vM2, exI, iN_add, iN_mul, iN_le, iN_lt, iN_eq, Nat.le_refl, qfN0, qfN1, gM_32, m32, show ¬ n ≤ c by omega, gM_34, rM_80, q1, bt, iN10, iN_shl1, iN_wo', im, e2]
          | false =>
            have bt := bit0 (m := ss.getD k 0) (p := c) (by omega) (by omega) hb
            rw [show twC ss k c = true from by unfold twC; rw [hb]; rfl, bN_t, bN_f]
            simp (disch := first | assumption | omega) only [e256_0, e256_1, e256_2, e256_3, e256_4, e256_5, e256_6, e256_9, e256_12, e256_13, e256_15, e256_16, e256_19, e256_22, e256_23, e256_26, e256_27, e256_28, e256_29, e256_30, e256_31, e256_32, e256_33, e256_36, e256_37, e256_40, e256_41, e256_43, e256_44, e256_47, e256_49, e256_52, e256_53, e256_54, e256_57, e256_58, e256_59, e256_60, e256_61, e256_62, e256_63, e256_64, e256_65, e256_68, e256_69, e256_72, e256_73, e256_76, e256_77, e256_78, e256_81, e256_84, e256_87, e256_90, e256_91, m256, ↓reduceIte, qg_0, qg_1, qg_2, qg_3, qg_4, qg_5, qg_6, qg_7, qg_8, qg_9, qg_10, qg_11, qg_12, qg_13, not_true_eq_false, not_false_eq_true, Nat.reduceBEq, Bool.false_eq_true, ex1, ex3, ex4, exF, qfit_i, qfit_l, qfit_r, qfit_n, qfit_b0, qfit_b1, qcat_i, qcat_r, qcat_n, qcat_l, qroom_0, qroom_c, List.map_cons, List.map_nil, List.sum_cons, List.sum_nil, Nat.reduceAdd, Nat.reduceMul, Nat.reduceLT, Nat.reduceLeDiff, Nat.reduceEqDiff, Nat.reduceSub, decide_true, true_and, and_true, and_self, if_true, if_false, Option.toList_some, Option.toList_none, List.cons_append, List.nil_append, qsL, qlong, List.length_cons, List.length_nil, iN_L, vM1, vM2, exI, iN_add, iN_mul, iN_le, iN_lt, iN_eq, Nat.le_refl, qfN0, qfN1, gM_32, m32, show ¬ n ≤ c by omega, gM_34, rM_80, q1, bt, iN10, show ¬ iN 0 = iN 1 by decide]
    obtain ⟨x3', r⟩ := this n 0 x4 (by omega)
    rw [show allN (twC ss k) 0 = true from rfl, Bool.and_true] at r
    exact ⟨x3', r⟩
  have outer : ∀ (w k : Nat) (x3 x4 : Option Value), k + w = ss.length → ∃ x3' x4', ∀ R, qEv (d + 1) 3 qk_256 4 [some (.ref 55), some (.int (bB (allN (twA ss n) k))), some (.int (iN k)), x3, x4] [] h R ↔ qEv (d + 1) 3 qk_256 4 [some (.ref 55), some (.int (bB (twB ss n))), some (.int (iN ss.length)), x3', x4'] [] h R := by
    intro w
    induction w with
    | zero =>
      intro k x3 x4 hk
      have e : k = ss.length := by omega
      subst e
      exact ⟨x3, x4, fun R => Iff.rfl⟩
    | succ w ih =>
      intro k x3 x4 hk
      obtain ⟨y, r1⟩ := inner (allN (twA ss n) k) k x4 (by omega)
      obtain ⟨z3, z4, r2⟩ := ih (k + 1) (some (.int (iN n))) y (by omega)
      refine ⟨z3, z4, fun R => ?_⟩
      rw [← r2 R, allN, ← r1 R, e256_4]
      simp (disch := first | assumption | omega) only [e256_0, e256_1, e256_2, e256_3, e256_5, e256_6, e256_9, e256_12, e256_13, e256_15, e256_16, e256_19, e256_22, e256_23, e256_26, e256_27, e256_28, e256_29, e256_30, e256_31, e256_32, e256_33, e256_36, e256_37, e256_40, e256_41, e256_43, e256_44, e256_47, e256_49, e256_52, e256_53, e256_54, e256_57, e256_58, e256_59, e256_60, e256_61, e256_62, e256_63, e256_64, e256_65, e256_68, e256_69, e256_72, e256_73, e256_76, e256_77, e256_78, e256_81, e256_84, e256_87, e256_90, e256_91, m256, ↓reduceIte, qg_0, qg_1, qg_2, qg_3, qg_4, qg_5, qg_6, qg_7, qg_8, qg_9, qg_10, qg_11, qg_12, qg_13, not_true_eq_false, not_false_eq_true, Nat.reduceBEq, Bool.false_eq_true, ex1, ex3, ex4, exF, qfit_i, qfit_l, qfit_r, qfit_n, qfit_b0, qfit_b1, qcat_i, qcat_r, qcat_n, qcat_l, qroom_0, qroom_c, List.map_cons, List.map_nil, List.sum_cons, List.sum_nil, Nat.reduceAdd, Nat.reduceMul, Nat.reduceLT, Nat.reduceLeDiff, Nat.reduceEqDiff, Nat.reduceSub, decide_true, true_and, and_true, and_self, if_true, if_false, Option.toList_some, Option.toList_none, List.cons_append, List.nil_append, qsL, qlong, List.length_cons, List.length_nil, iN_L, vM1, vM2, exI, iN_add, iN_mul, iN_le, iN_lt, iN_eq, Nat.le_refl, qfN0, qfN1, gM_33, m33, show ¬ ss.length ≤ k by omega]
  obtain ⟨z3, z4, r⟩ := outer ss.length 0 none none (by omega)
  have r0 : qMC (d + 2) 256 [.ref 55] h R ↔ qEv (d + 1) 3 qk_256 4 [some (.ref 55), some (.int (bB (allN (twA ss n) 0))), some (.int (iN 0)), none, none] [] h R := by
    rw [show allN (twA ss n) 0 = true from rfl, bN_t]
    simp (disch := first | assumption | omega) only [e256_0, e256_1, e256_2, e256_3, e256_5, e256_6, e256_9, e256_12, e256_13, e256_14, e256_15, e256_16, e256_19, e256_22, e256_23, e256_26, e256_27, e256_28, e256_29, e256_30, e256_31, e256_32, e256_33, e256_36, e256_37, e256_40, e256_41, e256_43, e256_44, e256_47, e256_49, e256_52, e256_53, e256_54, e256_57, e256_58, e256_59, e256_60, e256_61, e256_62, e256_63, e256_64, e256_65, e256_68, e256_69, e256_72, e256_73, e256_76, e256_77, e256_78, e256_81, e256_84, e256_87, e256_90, e256_91, m256, ↓reduceIte, qg_0, qg_1, qg_2, qg_3, qg_4, qg_5, qg_6, qg_7, qg_8, qg_9, qg_10, qg_11, qg_12, qg_13, not_true_eq_false, not_false_eq_true, Nat.reduceBEq, Bool.false_eq_true, ex1, ex3, ex4, exF, qfit_i, qfit_l, qfit_r, qfit_n, qfit_b0, qfit_b1, qcat_i, qcat_r, qcat_n, qcat_l, qroom_0, qroom_c, List.map_cons, List.map_nil, List.sum_cons, List.sum_nil, Nat.reduceAdd, Nat.reduceMul, Nat.reduceLT, Nat.reduceLeDiff, Nat.reduceEqDiff, Nat.reduceSub, decide_true, true_and, and_true, and_self, if_true, if_false, Option.toList_some, Option.toList_none, List.cons_append, List.nil_append, qsL, qlong, List.length_cons, List.length_nil, iN_L, vM1, vM2, exI, iN_add, iN_mul, iN_le, iN_lt, iN_eq, Nat.le_refl, qfN0, qfN1]
  rw [r0, r R, e256_4]
  simp (disch := first | assumption | omega) only [e256_0, e256_1, e256_2, e256_3, e256_5, e256_6, e256_9, e256_12, e256_13, e256_14, e256_15, e256_16, e256_19, e256_22, e256_23, e256_26, e256_27, e256_28, e256_29, e256_30, e256_31, e256_32, e256_33, e256_36, e256_37, e256_40, e256_41, e256_43, e256_44, e256_47, e256_49, e256_52, e256_53, e256_54, e256_57, e256_58, e256_59, e256_60, e256_61, e256_62, e256_63, e256_64, e256_65, e256_68, e256_69, e256_72, e256_73, e256_76, e256_77, e256_78, e256_81, e256_84, e256_87, e256_90, e256_91, m256, ↓reduceIte, qg_0, qg_1, qg_2, qg_3, qg_4, qg_5, qg_6, qg_7, qg_8, qg_9, qg_10, qg_11, qg_12, qg_13, not_true_eq_false, not_false_eq_true, Nat.reduceBEq, Bool.false_eq_true, ex1, ex3, ex4, exF, qfit_i, qfit_l, qfit_r, qfit_n, qfit_b0, qfit_b1, qcat_i, qcat_r, qcat_n, qcat_l, qroom_0, qroom_c, List.map_cons, List.map_nil, List.sum_cons, List.sum_nil, Nat.reduceAdd, Nat.reduceMul, Nat.reduceLT, Nat.reduceLeDiff, Nat.reduceEqDiff, Nat.reduceSub, decide_true, true_and, and_true, and_self, if_true, if_false, Option.toList_some, Option.toList_none, List.cons_append, List.nil_append, qsL, qlong, List.length_cons, List.length_nil, iN_L, vM1, vM2, exI, iN_add, iN_mul, iN_le, iN_lt, iN_eq, Nat.le_refl, qfN0, qfN1, gM_33, m33, bB_fit]
/-- two sets have all but one point in common -/
def jnA (ss : List Nat) (D a b : Nat) : Bool := decide (pop (ss.getD a 0 &&& ss.getD b 0) 24 = D - 1)
def jnC (ss : List Nat) (D c : Nat) : Prop := ∀ R : Nat → Prop, R 0 → (∀ a b, a < ss.length → b < ss.length → R a → jnA ss D a b = true → R b) → R c
noncomputable def jnB (ss : List Nat) (D : Nat) : Bool := tB (∀ c, c < ss.length → jnC ss D c)
def jnS (ss : List Nat) (D m0 a b m : Nat) (f : Bool) : Prop := m < 2 ^ ss.length ∧ (∀ c, m0.testBit c = true → m.testBit c = true) ∧ (∀ c, m.testBit c = true → jnC ss D c) ∧ (f = false → m = m0 ∧ ∀ a' b', (a' < a ∨ (a' = a ∧ b' < b)) → b' < ss.length → m0.testBit a' = true → jnA ss D a' b' = true → m0.testBit b' = true) ∧ (f = true → pop m0 ss.length < pop m ss.length)
section
variable {D m0 a b m : Nat} {f : Bool}
theorem jnS.lt (s : jnS ss D m0 a b m f) : m < 2 ^ ss.length := s.1
theorem jnS.sup (s : jnS ss D m0 a b m f) : ∀ c, m0.testBit c = true → m.testBit c = true := s.2.1
theorem jnS.cl (s : jnS ss D m0 a b m f) : ∀ c, m.testBit c = true → jnC ss D c := s.2.2.1
theorem jnS.no (s : jnS ss D m0 a b m f) : f = false → m = m0 ∧ ∀ a' b', (a' < a ∨ (a' = a ∧ b' < b)) → b' < ss.length → m0.testBit a' = true → jnA ss D a' b' = true → m0.testBit b' = true := s.2.2.2.1
theorem jnS.yes (s : jnS ss D m0 a b m f) : f = true → pop m0 ss.length < pop m ss.length := s.2.2.2.2
end
theorem pop_lt {m k l : Nat} (hk : k < l) (hb : m.testBit k = false) : pop m l < pop (m ||| 2 ^ k) l := by
  refine cntN_ltq (fun j _ hj => by rw [Nat.testBit_or, hj]; rfl) ⟨k, hk, by rw [Nat.testBit_or, Nat.testBit_two_pow_self, Bool.or_true], by rw [hb]; exact Bool.false_ne_true⟩
theorem pop_mono {m m' l : Nat} (h : ∀ c, m.testBit c = true → m'.testBit c = true) : pop m l ≤ pop m' l := by
  unfold pop
  exact cntN_leq fun k _ hk => h k hk
theorem jn_lt {ss : List Nat} {m b : Nat} (hm : m < 2 ^ ss.length) (hb : b < ss.length) : m ||| 2 ^ b < 2 ^ ss.length := Nat.or_lt_two_pow hm (Nat.pow_lt_pow_right (by decide) hb)
/-- a pair that brings nothing -/
theorem jnS.skip {D m0 a b m : Nat} {f : Bool} (s : jnS ss D m0 a b m f) (h : ¬ (m.testBit a = true ∧ m.testBit b = false ∧ jnA ss D a b = true)) : jnS ss D m0 a (b + 1) m f := by
  refine ⟨s.lt, s.sup, s.cl, fun e => ⟨(s.no e).1, fun a' b' hab hb' ha hj => ?_⟩, s.yes⟩
  by_cases w : a' = a ∧ b' = b
  · obtain ⟨rfl, rfl⟩ := w
    have e2 := (s.no e).1
    cases q : m0.testBit b' with
    | true => rfl
    | false => exact absurd ⟨by rw [e2]; exact ha, by rw [e2]; exact q, hj⟩ h
  · exact (s.no e).2 a' b' (by omega) hb' ha hj
theorem jnS.take {D m0 a b m : Nat} {f : Bool} (s : jnS ss D m0 a b m f) (ha : a < ss.length) (hb : b < ss.length) (h1 : m.testBit a = true) (h2 : m.testBit b = false) (h3 : jnA ss D a b = true) : jnS ss D m0 a (b + 1) (m ||| 2 ^ b) true := by
  refine ⟨jn_lt s.lt hb, fun c hc => by rw [Nat.testBit_or, s.sup c hc]; rfl, fun c hc => ?_, (fun z => by cases z), fun _ => ?_⟩
  · rw [Nat.testBit_or, Bool.or_eq_true] at hc
    rcases hc with hc | hc
    · exact s.cl c hc
    · have e : b = c := by rw [Nat.testBit_two_pow] at hc; exact of_decide_eq_true hc
      rw [← e]
      exact fun R r0 rs => rs a b ha hb (s.cl a h1 R r0 rs) h3
  · have := pop_lt hb h2
    have := pop_mono (l := ss.length) s.sup
    omega
theorem jnS.row {D m0 a m : Nat} {f : Bool} (s : jnS ss D m0 a ss.length m f) : jnS ss D m0 (a + 1) 0 m f :=
  ⟨s.lt, s.sup, s.cl, fun e => ⟨(s.no e).1, fun a' b' hab hb' ha hj => (s.no e).2 a' b' (by omega) hb' ha hj⟩, s.yes⟩
set_option maxRecDepth 100000 in
set_option maxHeartbeats 16000000 in
theorem jn_row {D a m0 : Nat} (s : ShM h) (v : PaV h n ss) (hD : 1 ≤ D) (hD4 : D ≤ 4) (ha : a < ss.length) : ∀ (w b m : Nat) (f : Bool) (x6 : Option Value), b + w = ss.length → jnS ss D m0 a b m f → ∃ m' f' x6', jnS ss D m0 (a + 1) 0 m' f' ∧ ∀ R, qEv (d + 1) 3 qk_257 25 [some (.ref 55), some (.int (iN D)), some (.int (iN m)), some (.int (bB f)), some (.int (iN a)), some (.int (iN b)), x6] [] h R ↔ qEv (d + 1) 3 qk_257 13 [some (.ref 55), some (.int (iN D)), some (.int (iN m')), some (.int (bB f')), some (.int (iN (a + 1))), some (.int (iN ss.length)), x6'] [] h R := by
  obtain ⟨⟨n3, n12⟩, l24, m32, m33, hs⟩ := v
  have p12 := pw12 n12
  have pl : 2 ^ ss.length ≤ 16777216 := show 2 ^ ss.length ≤ 2 ^ 24 from Nat.pow_le_pow_right (by decide) l24
  intro w
  induction w with
  | zero =>
    intro b m f x6 hb st
    have e : b = ss.length := by omega
    subst e
    refine ⟨m, f, x6, st.row, fun R => ?_⟩
    rw [e257_25]
    simp (disch := first | assumption | omega) only [e257_0, e257_1, e257_2, e257_3, e257_4, e257_5, e257_8, e257_9, e257_10, e257_11, e257_15, e257_16, e257_19, e257_22, e257_23, e257_27, e257_28, e257_31, e257_34, e257_35, e257_37, e257_38, e257_39, e257_40, e257_41, e257_44, e257_45, e257_47, e257_48, e257_49, e257_50, e257_53, e257_54, e257_57, e257_59, e257_60, e257_61, e257_64, e257_66, e257_67, e257_68, e257_71, e257_72, e257_73, e257_74, e257_77, e257_78, e257_81, e257_82, e257_84, e257_85, e257_87, e257_90, e257_91, e257_93, e257_94, e257_97, e257_98, e257_99, e257_100, e257_101, e257_104, e257_106, e257_109, e257_110, e257_113, e257_114, e257_115, e257_118, e257_121, e257_124, e257_127, e257_130, e257_131, e257_132, e257_133, e257_136, e257_137, e257_138, e257_139, e257_142, e257_143, e257_146, e257_147, m257, ↓reduceIte, qg_0, qg_1, qg_2, qg_3, qg_4, qg_5, qg_6, qg_7, qg_8, qg_9, qg_10, qg_11, qg_12, qg_13, not_true_eq_false, not_false_eq_true, Nat.reduceBEq, Bool.false_eq_true, ex1, ex3, ex4, exF, qfit_i, qfit_l, qfit_r, qfit_n, qfit_b0, qfit_b1, qcat_i, qcat_r, qcat_n, qcat_l, qroom_0, qroom_c, List.map_cons, List.map_nil, List.sum_cons, List.sum_nil, Nat.reduceAdd, Nat.reduceMul, Nat.reduceLT, Nat.reduceLeDiff, Nat.reduceEqDiff, Nat.reduceSub, decide_true, true_and, and_true, and_self, if_true, if_false, Option.toList_some, Option.toList_none, List.cons_append, List.nil_append, qsL, qlong, List.length_cons, List.length_nil, iN_L, vM1, vM2, exI, iN_add, iN_mul, iN_le, iN_lt, iN_eq, Nat.le_refl, qfN0, qfN1, gM_33, m33]
  | succ w ih =>
    intro b m f x6 hb st
    have hbl : b < ss.length := by omega
    have lt := st.lt
    obtain ⟨a1, a2, a3⟩ := hs a ha
    obtain ⟨b1, b2, b3⟩ := hs b hbl
    have al := Nat.and_le_left (n := ss.getD a 0) (m := ss.getD b 0)
    have pw := pop_le (ss.getD a 0 &&& ss.getD b 0) 24
    have sb : ∀ R, qMC (d + 1) 192 [.int (iN (ss.getD a 0 &&& ss.getD b 0))] h R ↔ R = (some (.int (iN (pop (ss.getD a 0 &&& ss.getD b 0) 24))), h) := fun R => s_bitsN (by omega) R
    have n01 : ¬ iN 0 = iN 1 := by decide
    have skip : (∀ R, qEv (d + 1) 3 qk_257 25 [some (.ref 55), some (.int (iN D)), some (.int (iN m)), some (.int (bB f)), some (.int (iN a)), some (.int (iN b)), x6] [] h R ↔ qEv (d + 1) 3 qk_257 25 [some (.ref 55), some (.int (iN D)), some (.int (iN m)), some (.int (bB f)), some (.int (iN a)), some (.int (iN (b + 1))), some (.int (iN 0))] [] h R) → ¬ (m.testBit a = true ∧ m.testBit b = false ∧ jnA ss D a b = true) → ∃ m' f' x6', jnS ss D m0 (a + 1) 0 m' f' ∧ ∀ R, qEv (d + 1) 3 qk_257 25 [some (.ref 55), some (.int (iN D)), some (.int (iN m)), some (.int (bB f)), some (.int (iN a)), some (.int (iN b)), x6] [] h R ↔ qEv (d + 1) 3 qk_257 13 [some (.ref 55), some (.int (iN D)), some (.int (iN m')), some (.int (bB f')), some (.int (iN (a + 1))), some (.int (iN ss.length)), x6'] [] h R := by
      intro r hno
      obtain ⟨m', f', x6', s', r'⟩ := ih (b + 1) m f (some (.int (iN 0))) (by omega) (st.skip hno)
      exact ⟨m', f', x6', s', fun R => (r R).trans (r' R)⟩
    have fz : f = true ∨ f = false := by cases f <;> simp
    cases q1 : m.testBit a with
    | false =>
      have t1 := bit0 (m := m) (p := a) (by omega) (by omega) q1
      refine skip (fun R => ?_) (fun z => by rw [q1] at z; exact Bool.false_ne_true z.1)
      rw [e257_25]
      rcases fz with rfl | rfl
      · rw [bN_t]
        simp (disch := first | assumption | omega) only [e257_0, e257_1, e257_2, e257_3, e257_4, e257_5, e257_8, e257_9, e257_10, e257_11, e257_13, e257_15, e257_16, e257_19, e257_22, e257_23, e257_27, e257_28, e257_31, e257_34, e257_35, e257_37, e257_38, e257_39, e257_40, e257_41, e257_44, e257_45, e257_47, e257_48, e257_49, e257_50, e257_53, e257_54, e257_57, e257_59, e257_60, e257_61, e257_64, e257_66, e257_67, e257_68, e257_71, e257_72, e257_73, e257_74, e257_77, e257_78, e257_81, e257_82, e257_84, e257_85, e257_87, e257_90, e257_91, e257_93, e257_94, e257_97, e257_98, e257_99, e257_100, e257_101, e257_104, e257_106, e257_109, e257_110, e257_113, e257_114, e257_115, e257_118, e257_121, e257_124, e257_127, e257_130, e257_131, e257_132, e257_133, e257_136, e257_137, e257_138, e257_139, e257_142, e257_143, e257_146, e257_147, m257, ↓reduceIte, qg_0, qg_1, qg_2, qg_3, qg_4, qg_5, qg_6, qg_7, qg_8, qg_9, qg_10, qg_11, qg_12, qg_13, not_true_eq_false, not_false_eq_true, Nat.reduceBEq, Bool.false_eq_true, ex1, ex3, ex4, exF, qfit_i, qfit_l, qfit_r, qfit_n, qfit_b0, qfit_b1, qcat_i, qcat_r, qcat_n, qcat_l, qroom_0, qroom_c, List.map_cons, List.map_nil, List.sum_cons, List.sum_nil, Nat.reduceAdd, Nat.reduceMul, Nat.reduceLT, Nat.reduceLeDiff, Nat.reduceEqDiff, Nat.reduceSub, decide_true, true_and, and_true, and_self, if_true, if_false, Option.toList_some, Option.toList_none, List.cons_append, List.nil_append, qsL, qlong, List.length_cons, List.length_nil, iN_L, vM1, vM2, exI, iN_add, iN_mul, iN_le, iN_lt, iN_eq, Nat.le_refl, qfN0, qfN1, gM_33, m33, show ¬ ss.length ≤ b by omega, t1, n01, iN10, iN_or, Nat.or_zero]
      · rw [bN_f]
        simp (disch := first | assumption | omega) only [e257_0, e257_1, e257_2, e257_3, e257_4, e257_5, e257_8, e257_9, e257_10, e257_11, e257_13, e257_15, e257_16, e257_19, e257_22, e257_23, e257_27, e257_28, e257_31, e257_34, e257_35, e257_37, e257_38, e257_39, e257_40, e257_41, e257_44, e257_45, e257_47, e257_48, e257_49, e257_50, e257_53, e257_54, e257_57, e257_59, e257_60, e257_61, e257_64, e257_66, e257_67, e257_68, e257_71, e257_72, e257_73, e257_74, e257_77, e257_78, e257_81, e257_82, e257_84, e257_85, e257_87, e257_90, e257_91, e257_93, e257_94, e257_97, e257_98, e257_99, e257_100, e257_101, e257_104, e257_106, e257_109, e257_110, e257_113, e257_114, e257_115, e257_118, e257_121, e257_124, e257_127, e257_130, e257_131, e257_132, e257_133, e257_136, e257_137, e257_138, e257_139, e257_142, e257_143, e257_146, e257_147, m257, ↓reduceIte, qg_0, qg_1, qg_2, qg_3, qg_4, qg_5, qg_6, qg_7, qg_8, qg_9, qg_10, qg_11, qg_12, qg_13, not_true_eq_false, not_false_eq_true, Nat.reduceBEq, Bool.false_eq_true, ex1, ex3, ex4, exF, qfit_i, qfit_l, qfit_r, qfit_n, qfit_b0, qfit_b1, qcat_i, qcat_r, qcat_n, qcat_l, qroom_0, qroom_c, List.map_cons, List.map_nil, List.sum_cons, List.sum_nil, Nat.reduceAdd, Nat.reduceMul, Nat.reduceLT, Nat.reduceLeDiff, Nat.reduceEqDiff, Nat.reduceSub, decide_true, true_and, and_true, and_self, if_true, if_false, Option.toList_some, Option.toList_none, List.cons_append, List.nil_append, qsL, qlong, List.length_cons, List.length_nil, iN_L, vM1, vM2, exI, iN_add, iN_mul, iN_le, iN_lt, iN_eq, Nat.le_refl, qfN0, qfN1, gM_33, m33, show ¬ ss.length ≤ b by omega, t1, n01, iN_or, Nat.or_zero]
    | true =>
      have t1 := bit1 (m := m) (p := a) (by omega) (by omega) q1
      cases q2 : m.testBit b with
      | true =>
        have t2 := bit1 (m := m) (p := b) (by omega) (by omega) q2
        refine skip (fun R => ?_) (fun z => by rw [q2] at z; exact Bool.false_ne_true z.2.1.symm)
        rw [e257_25]
        rcases fz with rfl | rfl
        · rw [bN_t]
          simp (disch := first | assumption | omega) only [e257_0, e257_1, e257_2, e257_3, e257_4, e257_5, e257_8, e257_9, e257_10, e257_11, e257_13, e257_15, e257_16, e257_19, e257_22, e257_23, e257_27, e257_28, e257_31, e257_34, e257_35, e257_37, e257_38, e257_39, e257_40, e257_41, e257_44, e257_45, e257_47, e257_48, e257_49, e257_50, e257_53, e257_54, e257_57, e257_59, e257_60, e257_61, e257_64, e257_66, e257_67, e257_68, e257_71, e257_72, e257_73, e257_74, e257_77, e257_78, e257_81, e257_82, e257_84, e257_85, e257_87, e257_90, e257_91, e257_93, e257_94, e257_97, e257_98, e257_99, e257_100, e257_101, e257_104, e257_106, e257_109, e257_110, e257_113, e257_114, e257_115, e257_118, e257_121, e257_124, e257_127, e257_130, e257_131, e257_132, e257_133, e257_136, e257_137, e257_138, e257_139, e257_142, e257_143, e257_146, e257_147, m257, ↓reduceIte, qg_0, qg_1, qg_2, qg_3, qg_4, qg_5, qg_6, qg_7, qg_8, qg_9, qg_10, qg_11, qg_12, qg_13, not_true_eq_false, not_false_eq_true, Nat.reduceBEq, Bool.false_eq_true, ex1, ex3, ex4, exF, qfit_i, qfit_l, qfit_r, qfit_n, qfit_b0, qfit_b1, qcat_i, qcat_r, qcat_n, qcat_l, qroom_0, qroom_c, List.map_cons, List.map_nil, List.sum_cons, List.sum_nil, Nat.reduceAdd, Nat.reduceMul, Nat.reduceLT, Nat.reduceLeDiff, Nat.reduceEqDiff, Nat.reduceSub, decide_true, true_and, and_true, and_self, if_true, if_false, Option.toList_some, Option.toList_none, List.cons_append, List.nil_append, qsL, qlong, List.length_cons, List.length_nil, iN_L, vM1, vM2, exI, iN_add, iN_mul, iN_le, iN_lt, iN_eq, Nat.le_refl, qfN0, qfN1, gM_33, m33, show ¬ ss.length ≤ b by omega, t1, t2, n01, iN10, iN_or, Nat.or_zero]
        · rw [bN_f]
          simp (disch := first | assumption | omega) only [e257_0, e257_1, e257_2, e257_3, e257_4, e257_5, e257_8, e257_9, e257_10, e257_11, e257_13, e257_15, e257_16, e257_19, e257_22, e257_23, e257_27, e257_28, e257_31, e257_34, e257_35, e257_37, e257_38, e257_39, e257_40, e257_41, e257_44, e257_45, e257_47, e257_48, e257_49, e257_50, e257_53, e257_54, e257_57, e257_59, e257_60, e257_61, e257_64, e257_66, e257_67, e257_68, e257_71, e257_72, e257_73, e257_74, e257_77, e257_78, e257_81, e257_82, e257_84, e257_85, e257_87, e257_90, e257_91, e257_93, e257_94, e257_97, e257_98, e257_99, e257_100, e257_101, e257_104, e257_106, e257_109, e257_110, e257_113, e257_114, e257_115, e257_118, e257_121, e257_124, e257_127, e257_130, e257_131, e257_132, e257_133, e257_136, e257_137, e257_138, e257_139, e257_142, e257_143, e257_146, e257_147, m257, ↓reduceIte, qg_0, qg_1, qg_2, qg_3, qg_4, qg_5, qg_6, qg_7, qg_8, qg_9, qg_10, qg_11, qg_12, qg_13, not_true_eq_false, not_false_eq_true, Nat.reduceBEq, Bool.false_eq_true, ex1, ex3, ex4, exF, qfit_i, qfit_l, qfit_r, qfit_n, qfit_b0, qfit_b1, qcat_i, qcat_r, qcat_n, qcat_l, qroom_0, qroom_c, List.map_cons, List.map_nil, List.sum_cons, List.sum_nil, Nat.reduceAdd, Nat.reduceMul, Nat.reduceLT, Nat.reduceLeDiff, Nat.reduceEqDiff, Nat.reduceSub, decide_true, true_and, and_true, and_self, if_true, if_false, Option.toList_some, Option.toList_none, List.cons_append, List.nil_append, qsL, qlong, List.length_cons, List.length_nil, iN_L, vM1, vM2, exI, iN_add, iN_mul, iN_le, iN_lt, iN_eq, Nat.le_refl, qfN0, qfN1, gM_33, m33, show ¬ ss.length ≤ b by omega, t1, t2, n01, iN10, iN_or, Nat.or_zero]
      | false =>
        have t2 := bit0 (m := m) (p := b) (by omega) (by omega) q2
        by_cases q3 : pop (ss.getD a 0 &&& ss.getD b 0) 24 = D - 1
        · obtain ⟨m', f', x6', s', r'⟩ := ih (b + 1) (m ||| 2 ^ b) true (some (.int (iN 1))) (by omega) (st.take ha hbl q1 q2 (decide_eq_true q3))
          refine ⟨m', f', x6', s', fun R => ?_⟩
          rw [← r' R, e257_25]
          rcases fz with rfl | rfl
          · rw [bN_t]
            simp (disch := first | assumption | omega) only [e257_0, e257_1, e257_2, e257_3, e257_4, e257_5, e257_8, e257_9, e257_10, e257_11, e257_13, e257_15, e257_16, e257_19, e257_22, e257_23, e257_27, e257_28, e257_31, e257_34, e257_35, e257_37, e257_38, e257_39, e257_40, e257_41, e257_44, e257_45, e257_47, e257_48, e257_49, e257_50, e257_53, e257_54, e257_57, e257_59, e257_60, e257_61, e257_64, e257_66, e257_67, e257_68, e257_71, e257_72, e257_73, e257_74, e257_77, e257_78, e257_81, e257_82, e257_84, e257_85, e257_87, e257_90, e257_91, e257_93, e257_94, e257_97, e257_98, e257_99, e257_100, e257_101, e257_104, e257_106, e257_109, e257_110, e257_113, e257_114, e257_115, e257_118, e257_121, e257_124, e257_127, e257_130, e257_131, e257_132, e257_133, e257_136, e257_137, e257_138, e257_139, e257_142, e257_143, e257_146, e257_147, m257, ↓reduceIte, qg_0, qg_1, qg_2, qg_3, qg_4, qg_5, qg_6, qg_7, qg_8, qg_9, qg_10, qg_11, qg_12, qg_13, not_true_eq_false, not_false_eq_true, Nat.reduceBEq, Bool.false_eq_true, ex1, ex3, ex4, exF, qfit_i, qfit_l, qfit_r, qfit_n, qfit_b0, qfit_b1, qcat_i, qcat_r, qcat_n, qcat_l, qroom_0, qroom_c, List.map_cons, List.map_nil, List.sum_cons, List.sum_nil, Nat.reduceAdd, Nat.reduceMul, Nat.reduceLT, Nat.reduceLeDiff, Nat.reduceEqDiff, Nat.reduceSub, decide_true, true_and, and_true, and_self, if_true, if_false, Option.toList_some, Option.toList_none, List.cons_append, List.nil_append, qsL, qlong, List.length_cons, List.length_nil, iN_L, vM1, vM2, exI, iN_add, iN_mul, iN_le, iN_lt, iN_eq, Nat.le_refl, qfN0, qfN1, gM_33, m33, show ¬ ss.length ≤ b by omega, t1, t2, n01, iN10, gM_34, rM_80, a1, b1, iN_and (ss.getD a 0) (ss.getD b 0), sb, iN_sub, q3, iN_shl1, iN_or]
          · rw [bN_t, bN_f]
            simp (disch := first | assumption | omega) only [e257_0, e257_1, e257_2, e257_3, e257_4, e257_5, e257_8, e257_9, e257_10, e257_11, e257_13, e257_15, e257_16, e257_19, e257_22, e257_23, e257_27, e257_28, e257_31, e257_34, e257_35, e257_37, e257_38, e257_39, e257_40, e257_41, e257_44, e257_45, e257_47, e257_48, e257_49, e257_50, e257_53, e257_54, e257_57, e257_59, e257_60, e257_61, e257_64, e257_66, e257_67, e257_68, e257_71, e257_72, e257_73, e257_74, e257_77, e257_78, e257_81, e257_82, e257_84, e257_85, e257_87, e257_90, e257_91, e257_93, e257_94, e257_97, e257_98, e257_99, e257_100, e257_101, e257_104, e257_106, e257_109, e257_110, e257_113, e257_114, e257_115, e257_118, e257_121, e257_124, e257_127, e257_130, e257_131, e257_132, e257_133, e257_136, e257_137, e257_138, e257_139, e257_142, e257_143, e257_146, e257_147, m257, ↓reduceIte, qg_0, qg_1, qg_2, qg_3, qg_4, qg_5, qg_6, qg_7, qg_8, qg_9, qg_10, qg_11, qg_12, qg_13, not_true_eq_false, not_false_eq_true, Nat.reduceBEq, Bool.false_eq_true, ex1, ex3, ex4, exF, qfit_i, qfit_l, qfit_r, qfit_n, qfit_b0, qfit_b1, qcat_i, qcat_r, qcat_n, qcat_l, qroom_0, qroom_c, List.map_cons, List.map_nil, List.sum_cons, List.sum_nil, Nat.reduceAdd, Nat.reduceMul, Nat.reduceLT, Nat.reduceLeDiff, Nat.reduceEqDiff, Nat.reduceSub, decide_true, true_and, and_true, and_self, if_true, if_false, Option.toList_some, Option.toList_none, List.cons_append, List.nil_append, qsL, qlong, List.length_cons, List.length_nil, iN_L, vM1, vM2, exI, iN_add, iN_mul, iN_le, iN_lt, iN_eq, Nat.le_refl, qfN0, qfN1, gM_33, m33, show ¬ ss.length ≤ b by omega, t1, t2, n01, iN10, gM_34, rM_80, a1, b1, iN_and (ss.getD a 0) (ss.getD b 0), sb, iN_sub, q3, iN_shl1, iN_or]
        · refine skip (fun R => ?_) (fun z => q3 (of_decide_eq_true z.2.2))
          rw [e257_25]
          rcases fz with rfl | rfl
          · rw [bN_t]
            simp (disch := first | assumption | omega) only [e257_0, e257_1, e257_2, e257_3, e257_4, e257_5, e257_8, e257_9, e257_10, e257_11, e257_13, e257_15, e257_16, e257_19, e257_22, e257_23, e257_27, e257_28, e257_31, e257_34, e257_35, e257_37, e257_38, e257_39, e257_40, e257_41, e257_44, e257_45, e257_47, e257_48, e257_49, e257_50, e257_53, e257_54, e257_57, e257_59, e257_60, e257_61, e257_64, e257_66, e257_67, e257_68, e257_71, e257_72, e257_73, e257_74, e257_77, e257_78, e257_81, e257_82, e257_84, e257_85, e257_87, e257_90, e257_91, e257_93, e257_94, e257_97, e257_98, e257_99, e257_100, e257_101, e257_104, e257_106, e257_109, e257_110, e257_113, e257_114, e257_115, e257_118, e257_121, e257_124, e257_127, e257_130, e257_131, e257_132, e257_133, e257_136, e257_137, e257_138, e257_139, e257_142, e257_143, e257_146, e257_147, m257, ↓reduceIte, qg_0, qg_1, qg_2, qg_3, qg_4, qg_5, qg_6, qg_7, qg_8, qg_9, qg_10, qg_11, qg_12, qg_13, not_true_eq_false, not_false_eq_true, Nat.reduceBEq, Bool.false_eq_true, ex1, ex3, ex4, exF, qfit_i, qfit_l, qfit_r, qfit_n, qfit_b0, qfit_b1, qcat_i, qcat_r, qcat_n, qcat_l, qroom_0, qroom_c, List.map_cons, List.map_nil, List.sum_cons, List.sum_nil, Nat.reduceAdd, Nat.reduceMul, Nat.reduceLT, Nat.reduceLeDiff, Nat.reduceEqDiff, Nat.reduceSub, decide_true, true_and, and_true, and_self, if_true, if_false, Option.toList_some, Option.toList_none, List.cons_append, List.nil_append, qsL, qlong, List.length_cons, List.length_nil, iN_L, vM1, vM2, exI, iN_add, iN_mul, iN_le, iN_lt, iN_eq, Nat.le_refl, qfN0, qfN1, gM_33, m33, show ¬ ss.length ≤ b by omega, t1, t2, n01, iN10, gM_34, rM_80, a1, b1, iN_and (ss.getD a 0) (ss.getD b 0), sb, iN_sub, q3, iN_or, Nat.or_zero]
          · rw [bN_f]
            simp (disch := first | assumption | omega) only [e257_0, e257_1, e257_2, e257_3, e257_4, e257_5, e257_8, e257_9, e257_10, e257_11, e257_13, e257_15, e257_16, e257_19, e257_22, e257_23, e257_27, e257_28, e257_31, e257_34, e257_35, e257_37, e257_38, e257_39, e257_40, e257_41, e257_44, e257_45, e257_47, e257_48, e257_49, e257_50, e257_53, e257_54, e257_57, e257_59, e257_60, e257_61, e257_64, e257_66, e257_67, e257_68, e257_71, e257_72, e257_73, e257_74, e257_77, e257_78, e257_81, e257_82, e257_84, e257_85, e257_87, e257_90, e257_91, e257_93, e257_94, e257_97, e257_98, e257_99, e257_100, e257_101, e257_104, e257_106, e257_109, e257_110, e257_113, e257_114, e257_115, e257_118, e257_121, e257_124, e257_127, e257_130, e257_131, e257_132, e257_133, e257_136, e257_137, e257_138, e257_139, e257_142, e257_143, e257_146, e257_147, m257, ↓reduceIte, qg_0, qg_1, qg_2, qg_3, qg_4, qg_5, qg_6, qg_7, qg_8, qg_9, qg_10, qg_11, qg_12, qg_13, not_true_eq_false, not_false_eq_true, Nat.reduceBEq, Bool.false_eq_true, ex1, ex3, ex4, exF, qfit_i, qfit_l, qfit_r, qfit_n, qfit_b0, qfit_b1, qcat_i, qcat_r, qcat_n, qcat_l, qroom_0, qroom_c, List.map_cons, List.map_nil, List.sum_cons, List.sum_nil, Nat.reduceAdd, Nat.reduceMul, Nat.reduceLT, Nat.reduceLeDiff, Nat.reduceEqDiff, Nat.reduceSub, decide_true, true_and, and_true, and_self, if_true, if_false, Option.toList_some, Option.toList_none, List.cons_append, List.nil_append, qsL, qlong, List.length_cons, List.length_nil, iN_L, vM1, vM2, exI, iN_add, iN_mul, iN_le, iN_lt, iN_eq, Nat.le_refl, qfN0, qfN1, gM_33, m33, show ¬ ss.length ≤ b by omega, t1, t2, n01, iN10, gM_34, rM_80, a1, b1, iN_and (ss.getD a 0) (ss.getD b 0), sb, iN_sub, q3, iN_or, Nat.or_zero]
set_option maxRecDepth 100000 in
set_option maxHeartbeats 16000000 in
theorem jn_pass {D m0 : Nat} (s : ShM h) (v : PaV h n ss) (hD : 1 ≤ D) (hD4 : D ≤ 4) : ∀ (w a m : Nat) (f : Bool) (x5 x6 : Option Value), a + w = ss.length → jnS ss D m0 a 0 m f → ∃ m' f' x4' x5' x6', jnS ss D m0 ss.length 0 m' f' ∧ ∀ R, qEv (d + 1) 3 qk_257 13 [some (.ref 55), some (.int (iN D)), some (.int (iN m)), some (.int (bB f)), some (.int (iN a)), x5, x6] [] h R ↔ qEv (d + 1) 3 qk_257 4 [some (.ref 55), some (.int (iN D)), some (.int (iN m')), some (.int (bB f')), x4', x5', x6'] [] h R := by
  have v0 := v
  obtain ⟨⟨n3, n12⟩, l24, m32, m33, hs⟩ := v
  intro w
  induction w with
  | zero =>
    intro a m f x5 x6 ha st
    have e : a = ss.length := by omega
    subst e
    refine ⟨m, f, some (.int (iN ss.length)), x5, x6, st, fun R => ?_⟩
    rw [e257_13]
    simp (disch := first | assumption | omega) only [e257_0, e257_1, e257_2, e257_3, e257_5, e257_8, e257_9, e257_10, e257_11, e257_15, e257_16, e257_19, e257_22, e257_23, e257_25, e257_27, e257_28, e257_31, e257_34, e257_35, e257_37, e257_38, e257_39, e257_40, e257_41, e257_44, e257_45, e257_47, e257_48, e257_49, e257_50, e257_53, e257_54, e257_57, e257_59, e257_60, e257_61, e257_64, e257_66, e257_67, e257_68, e257_71, e257_72, e257_73, e257_74, e257_77, e257_78, e257_81, e257_82, e257_84, e257_85, e257_87, e257_90, e257_91, e257_93, e257_94, e257_97, e257_98, e257_99, e257_100, e257_101, e257_104, e257_106, e257_109, e257_110, e257_113, e257_114, e257_115, e257_118, e257_121, e257_124, e257_127, e257_130, e257_131, e257_132, e257_133, e257_136, e257_137, e257_138, e257_139, e257_142, e257_143, e257_146, e257_147, m257, ↓reduceIte, qg_0, qg_1, qg_2, qg_3, qg_4, qg_5, qg_6, qg_7, qg_8, qg_9, qg_10, qg_11, qg_12, qg_13, not_true_eq_false, not_false_eq_true, Nat.reduceBEq, Bool.false_eq_true, ex1, ex3, ex4, exF, qfit_i, qfit_l, qfit_r, qfit_n, qfit_b0, qfit_b1, qcat_i, qcat_r, qcat_n, qcat_l, qroom_0, qroom_c, List.map_cons, List.map_nil, List.sum_cons, List.sum_nil, Nat.reduceAdd, Nat.reduceMul, Nat.reduceLT, Nat.reduceLeDiff, Nat.reduceEqDiff, Nat.reduceSub, decide_true, true_and, and_true, and_self, if_true, if_false, Option.toList_some, Option.toList_none, List.cons_append, List.nil_append, qsL, qlong, List.length_cons, List.length_nil, iN_L, vM1, vM2, exI, iN_add, iN_mul, iN_le, iN_lt, iN_eq, Nat.le_refl, qfN0, qfN1, gM_33, m33]
  | succ w ih =>
    intro a m f x5 x6 ha st
    obtain ⟨m1, f1, y6, s1, r1⟩ := jn_row (d := d) (a := a) s v0 hD hD4 (by omega) ss.length 0 m f x6 (by omega) st
    obtain ⟨m2, f2, z4, z5, z6, s2, r2⟩ := ih (a + 1) m1 f1 (some (.int (iN ss.length))) y6 (by omega) s1
    refine ⟨m2, f2, z4, z5, z6, s2, fun R => ?_⟩
    rw [← r2 R, ← r1 R, e257_13]
    simp (disch := first | assumption | omega) only [e257_0, e257_1, e257_2, e257_3, e257_4, e257_5, e257_8, e257_9, e257_10, e257_11, e257_15, e257_16, e257_19, e257_22, e257_23, e257_27, e257_28, e257_31, e257_34, e257_35, e257_37, e257_38, e257_39, e257_40, e257_41, e257_44, e257_45, e257_47, e257_48, e257_49, e257_50, e257_53, e257_54, e257_57, e257_59, e257_60, e257_61, e257_64, e257_66, e257_67, e257_68, e257_71, e257_72, e257_73, e257_74, e257_77, e257_78, e257_81, e257_82, e257_84, e257_85, e257_87, e257_90, e257_91, e257_93, e257_94, e257_97, e257_98, e257_99, e257_100, e257_101, e257_104, e257_106, e257_109, e257_110, e257_113, e257_114, e257_115, e257_118, e257_121, e257_124, e257_127, e257_130, e257_131, e257_132, e257_133, e257_136, e257_137, e257_138, e257_139, e257_142, e257_143, e257_146, e257_147, m257, ↓reduceIte, qg_0, qg_1, qg_2, qg_3, qg_4, qg_5, qg_6, qg_7, qg_8, qg_9, qg_10, qg_11, qg_12, qg_13, not_true_eq_false, not_false_eq_true, Nat.reduceBEq, Bool.false_eq_true, ex1, ex3, ex4, exF, qfit_i, qfit_l, qfit_r, qfit_n, qfit_b0, qfit_b1, qcat_i, qcat_r, qcat_n, qcat_l, qroom_0, qroom_c, List.map_cons, List.map_nil, List.sum_cons, List.sum_nil, Nat.reduceAdd, Nat.reduceMul, Nat.reduceLT, Nat.reduceLeDiff, Nat.reduceEqDiff, Nat.reduceSub, decide_true, true_and, and_true, and_self, if_true, if_false, Option.toList_some, Option.toList_none, List.cons_append, List.nil_append, qsL, qlong, List.length_cons, List.length_nil, iN_L, vM1, vM2, exI, iN_add, iN_mul, iN_le, iN_lt, iN_eq, Nat.le_refl, qfN0, qfN1, gM_33, m33, show ¬ ss.length ≤ a by omega]
theorem jn_closed {D m : Nat} (h0 : m.testBit 0 = true) (cl : ∀ c, m.testBit c = true → jnC ss D c) (st : ∀ a' b', a' < ss.length → b' < ss.length → m.testBit a' = true → jnA ss D a' b' = true → m.testBit b' = true) (hm : m < 2 ^ ss.length) : decide (m = 2 ^ ss.length - 1) = jnB ss D := by
  rw [Bool.eq_iff_iff, decide_eq_true_eq]
  unfold jnB
  rw [tB_iff]
  constructor
  · intro e c hc
    exact cl c (by rw [e, Nat.testBit_two_pow_sub_one]; exact decide_eq_true hc)
  · intro hall
    refine Nat.eq_of_testBit_eq fun c => ?_
    rw [Nat.testBit_two_pow_sub_one]
    by_cases hc : c < ss.length
    · rw [decide_eq_true hc]
      exact hall c hc (fun x => m.testBit x = true) h0 (fun a b ha hb => st a b ha hb)
    · rw [decide_eq_false hc]
      exact Nat.testBit_lt_two_pow (Nat.lt_of_lt_of_le hm (Nat.pow_le_pow_right (by decide) (by omega)))
set_option maxRecDepth 100000 in
set_option maxHeartbeats 16000000 in
theorem s_isJoined {D : Nat} (s : ShM h) (v : PaV h n ss) (hD : 1 ≤ D) (hD4 : D ≤ 4) (hl : 0 < ss.length) (R : qRes) : qMC (d + 2) 257 [.ref 55, .int (iN D)] h R ↔ R = (some (.int (bB (jnB ss D))), h) := by
  have v0 := v
  obtain ⟨⟨n3, n12⟩, l24, m32, m33, hs⟩ := v
  have pl : 2 ^ ss.length ≤ 16777216 := show 2 ^ ss.length ≤ 2 ^ 24 from Nat.pow_le_pow_right (by decide) l24
  have p1 : 2 ^ 1 ≤ 2 ^ ss.length := Nat.pow_le_pow_right (by decide) hl
  have e1 : iN 1 <<< (iN ss.length &&& iN 31) = iN (2 ^ ss.length) := iN_shl1 _ (by omega)
  have key : ∀ (w m : Nat) (x4 x5 x6 : Option Value), pop m ss.length + w = ss.length → m < 2 ^ ss.length → m.testBit 0 = true → (∀ c, m.testBit c = true → jnC ss D c) → (qEv (d + 1) 3 qk_257 4 [some (.ref 55), some (.int (iN D)), some (.int (iN m)), some (.int (iN 1)), x4, x5, x6] [] h R ↔ R = (some (.int (bB (jnB ss D))), h)) := by
    intro w
    induction w using Nat.strongRecOn with
    | ind w ih =>
      intro m x4 x5 x6 hw hm h0 cl
      obtain ⟨m', f', y4, y5, y6, st, r⟩ := jn_pass (d := d) (m0 := m) s v0 hD hD4 ss.length 0 m false x5 x6 (by omega) ⟨hm, fun _ hc => hc, cl, fun _ => ⟨rfl, fun a' b' hab => by omega⟩, fun z => by cases z⟩
      have r0 : qEv (d + 1) 3 qk_257 4 [some (.ref 55), some (.int (iN D)), some (.int (iN m)), some (.int (iN 1)), x4, x5, x6] [] h R ↔ qEv (d + 1) 3 qk_257 13 [some (.ref 55), some (.int (iN D)), some (.int (iN m)), some (.int (bB false)), some (.int (iN 0)), x5, x6] [] h R := by
        rw [e257_4, bN_f]
        simp (disch := first | assumption | omega) only [e257_0, e257_1, e257_2, e257_3, e257_5, e257_8, e257_9, e257_10, e257_11, e257_15, e257_16, e257_19, e257_22, e257_23, e257_25, e257_27, e257_28, e257_31, e257_34, e257_35, e257_37, e257_38, e257_39, e257_40, e257_41, e257_44, e257_45, e257_47, e257_48, e257_49, e257_50, e257_53, e257_54, e257_57, e257_59, e257_60, e257_61, e257_64, e257_66, e257_67, e257_68, e257_71, e257_72, e257_73, e257_74, e257_77, e257_78, e257_81, e257_82, e257_84, e257_85, e257_87, e257_90, e257_91, e257_93, e257_94, e257_97, e257_98, e257_99, e257_100, e257_101, e257_104, e257_106, e257_109, e257_110, e257_113, e257_114, e257_115, e257_118, e257_121, e257_124, e257_127, e257_130, e257_131, e257_132, e257_133, e257_136, e257_137, e257_138, e257_139, e257_142, e257_143, e257_146, e257_147, m257, ↓reduceIte, qg_0, qg_1, qg_2, qg_3, qg_4, qg_5, qg_6, qg_7, qg_8, qg_9, qg_10, qg_11, qg_12, qg_13, not_true_eq_false, not_false_eq_true, Nat.reduceBEq, Bool.false_eq_true, ex1, ex3, ex4, exF, qfit_i, qfit_l, qfit_r, qfit_n, qfit_b0, qfit_b1, qcat_i, qcat_r, qcat_n, qcat_l, qroom_0, qroom_c, List.map_cons, List.map_nil, List.sum_cons, List.sum_nil, Nat.reduceAdd, Nat.reduceMul, Nat.reduceLT, Nat.reduceLeDiff, Nat.reduceEqDiff, Nat.reduceSub, decide_true, true_and, and_true, and_self, if_true, if_false, Option.toList_some, Option.toList_none, List.cons_append, List.nil_append, qsL, qlong, List.length_cons, List.length_nil, iN_L, vM1, vM2, exI, iN_add, iN_mul, iN_le, iN_lt, iN_eq, Nat.le_refl, qfN0, qfN1, iN10]
      rw [r0, r R]
      cases hf : f' with
      | true =>
        have := st.yes hf
        have := pop_le m' ss.length
        exact ih (ss.length - pop m' ss.length) (by omega) m' y4 y5 y6 (by omega) st.lt (st.sup 0 h0) st.cl
      | false =>
        obtain ⟨e, cls⟩ := st.no hf
        subst e
        rw [← jn_closed h0 cl (fun a' b' ha hb => cls a' b' (Or.inl ha) hb) hm, bN_f, e257_4]
        by_cases q : m' = 2 ^ ss.length - 1
        · rw [decide_eq_true q, bN_t]
          simp (disch := first | assumption | omega) only [e257_0, e257_1, e257_2, e257_3, e257_5, e257_8, e257_9, e257_10, e257_11, e257_13, e257_15, e257_16, e257_19, e257_22, e257_23, e257_25, e257_27, e257_28, e257_31, e257_34, e257_35, e257_37, e257_38, e257_39, e257_40, e257_41, e257_44, e257_45, e257_47, e257_48, e257_49, e257_50, e257_53, e257_54, e257_57, e257_59, e257_60, e257_61, e257_64, e257_66, e257_67, e257_68, e257_71, e257_72, e257_73, e257_74, e257_77, e257_78, e257_81, e257_82, e257_84, e257_85, e257_87, e257_90, e257_91, e257_93, e257_94, e257_97, e257_98, e257_99, e257_100, e257_101, e257_104, e257_106, e257_109, e257_110, e257_113, e257_114, e257_115, e257_118, e257_121, e257_124, e257_127, e257_130, e257_131, e257_132, e257_133, e257_136, e257_137, e257_138, e257_139, e257_142, e257_143, e257_146, e257_147, m257, ↓reduceIte, qg_0, qg_1, qg_2, qg_3, qg_4, qg_5, qg_6, qg_7, qg_8, qg_9, qg_10, qg_11, qg_12, qg_13, not_true_eq_false, not_false_eq_true, Nat.reduceBEq, Bool.false_eq_true, ex1, ex3, ex4, exF, qfit_i, qfit_l, qfit_r, qfit_n, qfit_b0, qfit_b1, qcat_i, qcat_r, qcat_n, qcat_l, qroom_0, qroom_c, List.map_cons, List.map_nil, List.sum_cons, List.sum_nil, Nat.reduceAdd, Nat.reduceMul, Nat.reduceLT, Nat.reduceLeDiff, Nat.reduceEqDiff, Nat.reduceSub, decide_true, true_and, and_true, and_self, if_true, if_false, Option.toList_some, Option.toList_none, List.cons_append, List.nil_append, qsL, qlong, List.length_cons, List.length_nil, iN_L, vM1, vM2, exI, iN_add, iN_mul, iN_le, iN_lt, iN_eq, Nat.le_refl, qfN0, qfN1, gM_33, m33, e1, iN_sub, q, qfN1]
        · rw [decide_eq_false q, bN_f]
          simp (disch := first | assumption | omega) only [e257_0, e257_1, e257_2, e257_3, e257_5, e257_8, e257_9, e257_10, e257_11, e257_13, e257_15, e257_16, e257_19, e257_22, e257_23, e257_25, e257_27, e257_28, e257_31, e257_34, e257_35, e257_37, e257_38, e257_39, e257_40, e257_41, e257_44, e257_45, e257_47, e257_48, e257_49, e257_50, e257_53, e257_54, e257_57, e257_59, e257_60, e257_61, e257_64, e257_66, e257_67, e257_68, e257_71, e257_72, e257_73, e257_74, e257_77, e257_78, e257_81, e257_82, e257_84, e257_85, e257_87, e257_90, e257_91, e257_93, e257_94, e257_97, e257_98, e257_99, e257_100, e257_101, e257_104, e257_106, e257_109, e257_110, e257_113, e257_114, e257_115, e257_118, e257_121, e257_124, e257_127, e257_130, e257_131, e257_132, e257_133, e257_136, e257_137, e257_138, e257_139, e257_142, e257_143, e257_146, e257_147, m257, ↓reduceIte, qg_0, qg_1, qg_2, qg_3, qg_4, qg_5, qg_6, qg_7, qg_8, qg_9, qg_10, qg_11, qg_12, qg_13, not_true_eq_false, not_false_eq_true, Nat.reduceBEq, Bool.false_eq_true, ex1, ex3, ex4, exF, qfit_i, qfit_l, qfit_r, qfit_n, qfit_b0, qfit_b1, qcat_i, qcat_r, qcat_n, qcat_l, qroom_0, qroom_c, List.map_cons, List.map_nil, List.sum_cons, List.sum_nil, Nat.reduceAdd, Nat.reduceMul, Nat.reduceLT, Nat.reduceLeDiff, Nat.reduceEqDiff, Nat.reduceSub, decide_true, true_and, and_true, and_self, if_true, if_false, Option.toList_some, Option.toList_none, List.cons_append, List.nil_append, qsL, qlong, List.length_cons, List.length_nil, iN_L, vM1, vM2, exI, iN_add, iN_mul, iN_le, iN_lt, iN_eq, Nat.le_refl, qfN0, qfN1, gM_33, m33, e1, iN_sub, q]
  have r0 : qMC (d + 2) 257 [.ref 55, .int (iN D)] h R ↔ qEv (d + 1) 3 qk_257 4 [some (.ref 55), some (.int (iN D)), some (.int (iN 1)), some (.int (iN 1)), none, none, none] [] h R := by
    simp (disch := first | assumption | omega) only [e257_0, e257_1, e257_2, e257_3, e257_5, e257_8, e257_9, e257_10, e257_11, e257_13, e257_15, e257_16, e257_19, e257_22, e257_23, e257_25, e257_27, e257_28, e257_31, e257_34, e257_35, e257_37, e257_38, e257_39, e257_40, e257_41, e257_44, e257_45, e257_47, e257_48, e257_49, e257_50, e257_53, e257_54, e257_57, e257_59, e257_60, e257_61, e257_64, e257_66, e257_67, e257_68, e257_71, e257_72, e257_73, e257_74, e257_77, e257_78, e257_81, e257_82, e257_84, e257_85, e257_87, e257_90, e257_91, e257_93, e257_94, e257_97, e257_98, e257_99, e257_100, e257_101, e257_104, e257_106, e257_109, e257_110, e257_113, e257_114, e257_115, e257_118, e257_121, e257_124, e257_127, e257_130, e257_131, e257_132, e257_133, e257_136, e257_137, e257_138, e257_139, e257_142, e257_143, e257_146, e257_147, m257, ↓reduceIte, qg_0, qg_1, qg_2, qg_3, qg_4, qg_5, qg_6, qg_7, qg_8, qg_9, qg_10, qg_11, qg_12, qg_13, not_true_eq_false, not_false_eq_true, Nat.reduceBEq, Bool.false_eq_true, ex1, ex3, ex4, exF, qfit_i, qfit_l, qfit_r, qfit_n, qfit_b0, qfit_b1, qcat_i, qcat_r, qcat_n, qcat_l, qroom_0, qroom_c, List.map_cons, List.map_nil, List.sum_cons, List.sum_nil, Nat.reduceAdd, Nat.reduceMul, Nat.reduceLT, Nat.reduceLeDiff, Nat.reduceEqDiff, Nat.reduceSub, decide_true, true_and, and_true, and_self, if_true, if_false, Option.toList_some, Option.toList_none, List.cons_append, List.nil_append, qsL, qlong, List.length_cons, List.length_nil, iN_L, vM1, vM2, exI, iN_add, iN_mul, iN_le, iN_lt, iN_eq, Nat.le_refl, qfN0, qfN1]
  rw [r0]
  exact key (ss.length - pop 1 ss.length) 1 none none none (by have := pop_le 1 ss.length; omega) (by omega) (by decide) (fun c hc => by
    have : c = 0 := by
      rw [show (1 : Nat) = 2 ^ 0 from rfl, Nat.testBit_two_pow] at hc
      exact (of_decide_eq_true hc).symm
    rw [this]
    exact fun R r0 _ => r0)
end TWO

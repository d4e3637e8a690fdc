/-! ===== THE REFERENCE: hasTwo, isJoined, patternSum ===== -/
section TWO
variable {d : Nat} {h : qH} {n : Nat} {ss : List Nat}
/-- a set less one of its points lies in just two sets -/
def twC (ss : List Nat) (k c : Nat) : Bool := !(ss.getD k 0).testBit c || decide (cntN (lyB ss (wo (ss.getD k 0) (2 ^ c))) ss.length = 2)
def twA (ss : List Nat) (n k : Nat) : Bool := allN (twC ss k) n
def twB (ss : List Nat) (n : Nat) : Bool := allN (twA ss n) ss.length
set_option maxRecDepth 100000 in
set_option maxHeartbeats 16000000 in
theorem s_hasTwo (s : ShM h) (v : PaV h n ss) (R : qRes) : qMC (d + 2) 256 [.ref 55] h R ↔ R = (some (.int (bB (twB ss n))), h) := by
  have v0 := v
  obtain ⟨⟨n3, n12⟩, l24, m32, m33, hs⟩ := v
  have p12 := pw12 n12
  have inner : ∀ (f0 : Bool) (k : Nat) (x4 : Option Value), k < ss.length → ∃ x3', ∀ R, qEv (d + 1) 3 qk_256 14 [some (.ref 55), some (.int (bB f0)), some (.int (iN k)), some (.int (iN 0)), x4] [] h R ↔ qEv (d + 1) 3 qk_256 4 [some (.ref 55), some (.int (bB (f0 && twA ss n k))), some (.int (iN (k + 1))), some (.int (iN n)), x3'] [] h R := by
    intro f0 k x4 hk
    obtain ⟨q1, q2, q3⟩ := hs k hk
    have : ∀ (w c : Nat) (x4 : Option Value), c + w = n → ∃ x3', ∀ R, qEv (d + 1) 3 qk_256 14 [some (.ref 55), some (.int (bB (f0 && allN (twC ss k) c))), some (.int (iN k)), some (.int (iN c)), x4] [] h R ↔ qEv (d + 1) 3 qk_256 4 [some (.ref 55), some (.int (bB (f0 && twA ss n k))), some (.int (iN (k + 1))), some (.int (iN n)), x3'] [] h R := by
      intro w
      induction w with
      | zero =>
        intro c x4 hc
        have e : c = n := by omega
        subst e
        refine ⟨x4, fun R => ?_⟩
        rw [e256_14]
        simp (disch := first | assumption | omega) only [e256_0, e256_1, e256_2, e256_3, e256_5, e256_6, e256_9, e256_12, e256_13, e256_15, e256_16, e256_19, e256_22, e256_23, e256_26, e256_27, e256_28, e256_29, e256_30, e256_31, e256_32, e256_33, e256_36, e256_37, e256_40, e256_41, e256_43, e256_44, e256_47, e256_49, e256_52, e256_53, e256_54, e256_57, e256_58, e256_59, e256_60, e256_61, e256_62, e256_63, e256_64, e256_65, e256_68, e256_69, e256_72, e256_73, e256_76, e256_77, e256_78, e256_81, e256_84, e256_87, e256_90, e256_91, m256, ↓reduceIte, qg_0, qg_1, qg_2, qg_3, qg_4, qg_5, qg_6, qg_7, qg_8, qg_9, qg_10, qg_11, qg_12, qg_13, not_true_eq_false, not_false_eq_true, Nat.reduceBEq, Bool.false_eq_true, ex1, ex3, ex4, exF, qfit_i, qfit_l, qfit_r, qfit_n, qfit_b0, qfit_b1, qcat_i, qcat_r, qcat_n, qcat_l, qroom_0, qroom_c, List.map_cons, List.map_nil, List.sum_cons, List.sum_nil, Nat.reduceAdd, Nat.reduceMul, Nat.reduceLT, Nat.reduceLeDiff, Nat.reduceEqDiff, Nat.reduceSub, decide_true, true_and, and_true, and_self, if_true, if_false, Option.toList_some, Option.toList_none, List.cons_append, List.nil_append, qsL, qlong, List.length_cons, List.length_nil, iN_L, vM1, vM2, exI, iN_add, iN_mul, iN_le, iN_lt, iN_eq, Nat.le_refl, qfN0, qfN1, gM_32, m32]
        exact Iff.rfl
      | succ w ih =>
        intro c x4 hc
        have hcn : c < n := by omega
        have wl := wo_le (ss.getD k 0) (2 ^ c)
        have im : ∀ R, qMC (d + 1) 255 [.ref 55, .int (iN (wo (ss.getD k 0) (2 ^ c)))] h R ↔ R = (some (.int (iN (cntN (lyB ss (wo (ss.getD k 0) (2 ^ c))) ss.length))), h) := fun R => s_inMany s v0 (by omega) R
        have cl : cntN (lyB ss (wo (ss.getD k 0) (2 ^ c))) ss.length ≤ ss.length := cntN_le
        obtain ⟨x3', r⟩ := ih (c + 1) (some (.int (bB ((ss.getD k 0).testBit c)))) (by omega)
        refine ⟨x3', fun R => ?_⟩
        rw [← r R, e256_14, allN, ← Bool.and_assoc]
        cases f0 && allN (twC ss k) c with
        | false =>
          rw [Bool.false_and, bN_f]
          cases hb : (ss.getD k 0).testBit c with
          | true =>
            have bt := bit1 (m := ss.getD k 0) (p := c) (by omega) (by omega) hb
            rw [bN_t]
            simp (disch := first | assumption | omega) only [e256_0, e256_1, e256_2, e256_3, e256_4, e256_5, e256_6, e256_9, e256_12, e256_13, e256_15, e256_16, e256_19, e256_22, e256_23, e256_26, e256_27, e256_28, e256_29, e256_30, e256_31, e256_32, e256_33, e256_36, e256_37, e256_40, e256_41, e256_43, e256_44, e256_47, e256_49, e256_52, e256_53, e256_54, e256_57, e256_58, e256_59, e256_60, e256_61, e256_62, e256_63, e256_64, e256_65, e256_68, e256_69, e256_72, e256_73, e256_76, e256_77, e256_78, e256_81, e256_84, e256_87, e256_90, e256_91, m256, ↓reduceIte, qg_0, qg_1, qg_2, qg_3, qg_4, qg_5, qg_6, qg_7, qg_8, qg_9, qg_10, qg_11, qg_12, qg_13, not_true_eq_false, not_false_eq_true, Nat.reduceBEq, Bool.false_eq_true, ex1, ex3, ex4, exF, qfit_i, qfit_l, qfit_r, qfit_n, qfit_b0, qfit_b1, qcat_i, qcat_r, qcat_n, qcat_l, qroom_0, qroom_c, List.map_cons, List.map_nil, List.sum_cons, List.sum_nil, Nat.reduceAdd, Nat.reduceMul, Nat.reduceLT, Nat.reduceLeDiff, Nat.reduceEqDiff, Nat.reduceSub, decide_true, true_and, and_true, and_self, if_true, if_false, Option.toList_some, Option.toList_none, List.cons_append, List.nil_append, qsL, qlong, List.length_cons, List.length_nil, iN_L, vM1, vM2, exI, iN_add, iN_mul, iN_le, iN_lt, iN_eq, Nat.le_refl, qfN0, qfN1, gM_32, m32, show ¬ n ≤ c by omega, gM_34, rM_80, q1, bt]
          | false =>
            have bt := bit0 (m := ss.getD k 0) (p := c) (by omega) (by omega) hb
            rw [bN_f]
            simp (disch := first | assumption | omega) only [e256_0, e256_1, e256_2, e256_3, e256_4, e256_5, e256_6, e256_9, e256_12, e256_13, e256_15, e256_16, e256_19, e256_22, e256_23, e256_26, e256_27, e256_28, e256_29, e256_30, e256_31, e256_32, e256_33, e256_36, e256_37, e256_40, e256_41, e256_43, e256_44, e256_47, e256_49, e256_52, e256_53, e256_54, e256_57, e256_58, e256_59, e256_60, e256_61, e256_62, e256_63, e256_64, e256_65, e256_68, e256_69, e256_72, e256_73, e256_76, e256_77, e256_78, e256_81, e256_84, e256_87, e256_90, e256_91, m256, ↓reduceIte, qg_0, qg_1, qg_2, qg_3, qg_4, qg_5, qg_6, qg_7, qg_8, qg_9, qg_10, qg_11, qg_12, qg_13, not_true_eq_false, not_false_eq_true, Nat.reduceBEq, Bool.false_eq_true, ex1, ex3, ex4, exF, qfit_i, qfit_l, qfit_r, qfit_n, qfit_b0, qfit_b1, qcat_i, qcat_r, qcat_n, qcat_l, qroom_0, qroom_c, List.map_cons, List.map_nil, List.sum_cons, List.sum_nil, Nat.reduceAdd, Nat.reduceMul, Nat.reduceLT, Nat.reduceLeDiff, Nat.reduceEqDiff, Nat.reduceSub, decide_true, true_and, and_true, and_self, if_true, if_false, Option.toList_some, Option.toList_none, List.cons_append, List.nil_append, qsL, qlong, List.length_cons, List.length_nil, iN_L, vM1, vM2, exI, iN_add, iN_mul, iN_le, iN_lt, iN_eq, Nat.le_refl, qfN0, qfN1, gM_32, m32, show ¬ n ≤ c by omega, gM_34, rM_80, q1, bt, show ¬ iN 0 = iN 1 by decide]
        | true =>
          rw [Bool.true_and]
          cases hb : (ss.getD k 0).testBit c with
          | true =>
            have bt := bit1 (m := ss.getD k 0) (p := c) (by omega) (by omega) hb
            by_cases e2 : cntN (lyB ss (wo (ss.getD k 0) (2 ^ c))) ss.length = 2
            · rw [show twC ss k c = true from by unfold twC; rw [hb, decide_eq_true e2]; rfl, bN_t]
              simp (disch := first | assumption | omega) only [e256_0, e256_1, e256_2, e256_3, e256_4, e256_5, e256_6, e256_9, e256_12, e256_13, e256_15, e256_16, e256_19, e256_22, e256_23, e256_26, e256_27, e256_28, e256_29, e256_30, e256_31, e256_32, e256_33, e256_36, e256_37, e256_40, e256_41, e256_43, e256_44, e256_47, e256_49, e256_52, e256_53, e256_54, e256_57, e256_58, e256_59, e256_60, e256_61, e256_62, e256_63, e256_64, e256_65, e256_68, e256_69, e256_72, e256_73, e256_76, e256_77, e256_78, e256_81, e256_84, e256_87, e256_90, e256_91, m256, ↓reduceIte, qg_0, qg_1, qg_2, qg_3, qg_4, qg_5, qg_6, qg_7, qg_8, qg_9, qg_10, qg_11, qg_12, qg_13, not_true_eq_false, not_false_eq_true, Nat.reduceBEq, Bool.false_eq_true, ex1, ex3, ex4, exF, qfit_i, qfit_l, qfit_r, qfit_n, qfit_b0, qfit_b1, qcat_i, qcat_r, qcat_n, qcat_l, qroom_0, qroom_c, List.map_cons, List.map_nil, List.sum_cons, List.sum_nil, Nat.reduceAdd, Nat.reduceMul, Nat.reduceLT, Nat.reduceLeDiff, Nat.reduceEqDiff, Nat.reduceSub, decide_true, true_and, and_true, and_self, if_true, if_false, Option.toList_some, Option.toList_none, List.cons_append, List.nil_append, qsL, qlong, List.length_cons, List.length_nil, iN_L, vM1, vM2, exI, iN_add, iN_mul, iN_le, iN_lt, iN_eq, Nat.le_refl, qfN0, qfN1, gM_32, m32, show ¬ n ≤ c by omega, gM_34, rM_80, q1, bt, iN10, iN_shl1, iN_wo', im, e2]
            · rw [show twC ss k c = false from by unfold twC; rw [hb, decide_eq_false e2]; rfl, bN_t, bN_f]
              simp (disch := first | assumption | omega) only [e256_0, e256_1, e256_2, e256_3, e256_4, e256_5, e256_6, e256_9, e256_12, e256_13, e256_15, e256_16, e256_19, e256_22, e256_23, e256_26, e256_27, e256_28, e256_29, e256_30, e256_31, e256_32, e256_33, e256_36, e256_37, e256_40, e256_41, e256_43, e256_44, e256_47, e256_49, e256_52, e256_53, e256_54, e256_57, e256_58, e256_59, e256_60, e256_61, e256_62, e256_63, e256_64, e256_65, e256_68, e256_69, e256_72, e256_73, e256_76, e256_77, e256_78, e256_81, e256_84, e256_87, e256_90, e256_91, m256, ↓reduceIte, qg_0, qg_1, qg_2, qg_3, qg_4, qg_5, qg_6, qg_7, qg_8, qg_9, qg_10, qg_11, qg_12, qg_13, not_true_eq_false, not_false_eq_true, Nat.reduceBEq, Bool.false_eq_true, ex1, ex3, ex4, exF, qfit_i, qfit_l, qfit_r, qfit_n, qfit_b0, qfit_b1, qcat_i, qcat_r, qcat_n, qcat_l, qroom_0, qroom_c, List.map_cons, List.map_nil, List.sum_cons, List.sum_nil, Nat.reduceAdd, Nat.reduceMul, Nat.reduceLT, Nat.reduceLeDiff, Nat.reduceEqDiff, Nat.reduceSub, decide_true, true_and, and_true, and_self, if_true, if_false, Option.toList_some, Option.toList_none, List.cons_append, List.nil_append, qsL, qlong, List.length_cons, List.length_nil, iN_L, vM1, vM2, exI, iN_add, iN_mul, iN_le, iN_lt, iN_eq, Nat.le_refl, qfN0, qfN1, gM_32, m32, show ¬ n ≤ c by omega, gM_34, rM_80, q1, bt, iN10, iN_shl1, iN_wo', im, e2]
          | false =>
            have bt := bit0 (m := ss.getD k 0) (p := c) (by omega) (by omega) hb
            rw [show twC ss k c = true from by unfold twC; rw [hb]; rfl, bN_t, bN_f]
            simp (disch := first | assumption | omega) only [e256_0, e256_1, e256_2, e256_3, e256_4, e256_5, e256_6, e256_9, e256_12, e256_13, e256_15, e256_16, e256_19, e256_22, e256_23, e256_26, e256_27, e256_28, e256_29, e256_30, e256_31, e256_32, e256_33, e256_36, e256_37, e256_40, e256_41, e256_43, e256_44, e256_47, e256_49, e256_52, e256_53, e256_54, e256_57, e256_58, e256_59, e256_60, e256_61, e256_62, e256_63, e256_64, e256_65, e256_68, e256_69, e256_72, e256_73, e256_76, e256_77, e256_78, e256_81, e256_84, e256_87, e256_90, e256_91, m256, ↓reduceIte, qg_0, qg_1, qg_2, qg_3, qg_4, qg_5, qg_6, qg_7, qg_8, qg_9, qg_10, qg_11, qg_12, qg_13, not_true_eq_false, not_false_eq_true, Nat.reduceBEq, Bool.false_eq_true, ex1, ex3, ex4, exF, qfit_i, qfit_l, qfit_r, qfit_n, qfit_b0, qfit_b1, qcat_i, qcat_r, qcat_n, qcat_l, qroom_0, qroom_c, List.map_cons, List.map_nil, List.sum_cons, List.sum_nil, Nat.reduceAdd, Nat.reduceMul, Nat.reduceLT, Nat.reduceLeDiff, Nat.reduceEqDiff, Nat.reduceSub, decide_true, true_and, and_true, and_self, if_true, if_false, Option.toList_some, Option.toList_none, List.cons_append, List.nil_append, qsL, qlong, List.length_cons, List.length_nil, iN_L, vM1, vM2, exI, iN_add, iN_mul, iN_le, iN_lt, iN_eq, Nat.le_refl, qfN0, qfN1, gM_32, m32, show ¬ n ≤ c by omega, gM_34, rM_80, q1, bt, iN10, show ¬ iN 0 = iN 1 by decide]
    obtain ⟨x3', r⟩ := this n 0 x4 (by omega)
    rw [show allN (twC ss k) 0 = true from rfl, Bool.and_true] at r
    exact ⟨x3', r⟩
  have outer : ∀ (w k : Nat) (x3 x4 : Option Value), k + w = ss.length → ∃ x3' x4', ∀ R, qEv (d + 1) 3 qk_256 4 [some (.ref 55), some (.int (bB (allN (twA ss n) k))), some (.int (iN k)), x3, x4] [] h R ↔ qEv (d + 1) 3 qk_256 4 [some (.ref 55), some (.int (bB (twB ss n))), some (.int (iN ss.length)), x3', x4'] [] h R := by
    intro w
    induction w with
    | zero =>
      intro k x3 x4 hk
      have e : k = ss.length := by omega
      subst e
      exact ⟨x3, x4, fun R => Iff.rfl⟩
    | succ w ih =>
      intro k x3 x4 hk
      obtain ⟨y, r1⟩ := inner (allN (twA ss n) k) k x4 (by omega)
      obtain ⟨z3, z4, r2⟩ := ih (k + 1) (some (.int (iN n))) y (by omega)
      refine ⟨z3, z4, fun R => ?_⟩
      rw [← r2 R, allN, ← r1 R, e256_4]
      simp (disch := first | assumption | omega) only [e256_0, e256_1, e256_2, e256_3, e256_5, e256_6, e256_9, e256_12, e256_13, e256_15, e256_16, e256_19, e256_22, e256_23, e256_26, e256_27, e256_28, e256_29, e256_30, e256_31, e256_32, e256_33, e256_36, e256_37, e256_40, e256_41, e256_43, e256_44, e256_47, e256_49, e256_52, e256_53, e256_54, e256_57, e256_58, e256_59, e256_60, e256_61, e256_62, e256_63, e256_64, e256_65, e256_68, e256_69, e256_72, e256_73, e256_76, e256_77, e256_78, e256_81, e256_84, e256_87, e256_90, e256_91, m256, ↓reduceIte, qg_0, qg_1, qg_2, qg_3, qg_4, qg_5, qg_6, qg_7, qg_8, qg_9, qg_10, qg_11, qg_12, qg_13, not_true_eq_false, not_false_eq_true, Nat.reduceBEq, Bool.false_eq_true, ex1, ex3, ex4, exF, qfit_i, qfit_l, qfit_r, qfit_n, qfit_b0, qfit_b1, qcat_i, qcat_r, qcat_n, qcat_l, qroom_0, qroom_c, List.map_cons, List.map_nil, List.sum_cons, List.sum_nil, Nat.reduceAdd, Nat.reduceMul, Nat.reduceLT, Nat.reduceLeDiff, Nat.reduceEqDiff, Nat.reduceSub, decide_true, true_and, and_true, and_self, if_true, if_false, Option.toList_some, Option.toList_none, List.cons_append, List.nil_append, qsL, qlong, List.length_cons, List.length_nil, iN_L, vM1, vM2, exI, iN_add, iN_mul, iN_le, iN_lt, iN_eq, Nat.le_refl, qfN0, qfN1, gM_33, m33, show ¬ ss.length ≤ k by omega]
  obtain ⟨z3, z4, r⟩ := outer ss.length 0 none none (by omega)
  have r0 : qMC (d + 2) 256 [.ref 55] h R ↔ qEv (d + 1) 3 qk_256 4 [some (.ref 55), some (.int (bB (allN (twA ss n) 0))), some (.int (iN 0)), none, none] [] h R := by
    rw [show allN (twA ss n) 0 = true from rfl, bN_t]
    simp (disch := first | assumption | omega) only [e256_0, e256_1, e256_2, e256_3, e256_5, e256_6, e256_9, e256_12, e256_13, e256_14, e256_15, e256_16, e256_19, e256_22, e256_23, e256_26, e256_27, e256_28, e256_29, e256_30, e256_31, e256_32, e256_33, e256_36, e256_37, e256_40, e256_41, e256_43, e256_44, e256_47, e256_49, e256_52, e256_53, e256_54, e256_57, e256_58, e256_59, e256_60, e256_61, e256_62, e256_63, e256_64, e256_65, e256_68, e256_69, e256_72, e256_73, e256_76, e256_77, e256_78, e256_81, e256_84, e256_87, e256_90, e256_91, m256, ↓reduceIte, qg_0, qg_1, qg_2, qg_3, qg_4, qg_5, qg_6, qg_7, qg_8, qg_9, qg_10, qg_11, qg_12, qg_13, not_true_eq_false, not_false_eq_true, Nat.reduceBEq, Bool.false_eq_true, ex1, ex3, ex4, exF, qfit_i, qfit_l, qfit_r, qfit_n, qfit_b0, qfit_b1, qcat_i, qcat_r, qcat_n, qcat_l, qroom_0, qroom_c, List.map_cons, List.map_nil, List.sum_cons, List.sum_nil, Nat.reduceAdd, Nat.reduceMul, Nat.reduceLT, Nat.reduceLeDiff, Nat.reduceEqDiff, Nat.reduceSub, decide_true, true_and, and_true, and_self, if_true, if_false, Option.toList_some, Option.toList_none, List.cons_append, List.nil_append, qsL, qlong, List.length_cons, List.length_nil, iN_L, vM1, vM2, exI, iN_add, iN_mul, iN_le, iN_lt, iN_eq, Nat.le_refl, qfN0, qfN1]
  rw [r0, r R, e256_4]
  simp (disch := first | assumption | omega) only [e256_0, e256_1, e256_2, e256_3, e256_5, e256_6, e256_9, e256_12, e256_13, e256_14, e256_15, e256_16, e256_19, e256_22, e256_23, e256_26, e256_27, e256_28, e256_29, e256_30, e256_31, e256_32, e256_33, e256_36, e256_37, e256_40, e256_41, e256_43, e256_44, e256_47, e256_49, e256_52, e256_53, e256_54, e256_57, e256_58, e256_59, e256_60, e256_61, e256_62, e256_63, e256_64, e256_65, e256_68, e256_69, e256_72, e256_73, e256_76, e256_77, e256_78, e256_81, e256_84, e256_87, e256_90, e256_91, m256, ↓reduceIte, qg_0, qg_1, qg_2, qg_3, qg_4, qg_5, qg_6, qg_7, qg_8, qg_9, qg_10, qg_11, qg_12, qg_13, not_true_eq_false, not_false_eq_true, Nat.reduceBEq, Bool.false_eq_true, ex1, ex3, ex4, exF, qfit_i, qfit_l, qfit_r, qfit_n, qfit_b0, qfit_b1, qcat_i, qcat_r, qcat_n, qcat_l, qroom_0, qroom_c, List.map_cons, List.map_nil, List.sum_cons, List.sum_nil, Nat.reduceAdd, Nat.reduceMul, Nat.reduceLT, Nat.reduceLeDiff, Nat.reduceEqDiff, Nat.reduceSub, decide_true, true_and, and_true, and_self, if_true, if_false, Option.toList_some, Option.toList_none, List.cons_append, List.nil_append, qsL, qlong, List.length_cons, List.length_nil, iN_L, vM1, vM2, exI, iN_add, iN_mul, iN_le, iN_lt, iN_eq, Nat.le_refl, qfN0, qfN1, gM_33, m33, bB_fit]
end TWO

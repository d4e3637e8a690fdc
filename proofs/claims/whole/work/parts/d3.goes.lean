/-! ===== THE REFERENCE: goes, isRenamed ===== -/
section GOES
variable {d : Nat} {h : qH} {n : Nat} {A B : List Nat}
def eqT (A B : List Nat) (r : Nat → Nat) (c a b : Nat) : Bool := decide (thN A a b c A.length = thN B (r a) (r b) (r c) A.length)
def goA (A B : List Nat) (r : Nat → Nat) (c a : Nat) : Bool := (decide (a = c) || decide (r a ≠ r c)) && allN (eqT A B r c a) (a + 1)
def goB (A B : List Nat) (r : Nat → Nat) (c : Nat) : Bool := allN (goA A B r c) (c + 1)
def Th3 (h : qH) (n : Nat) (A B : List Nat) : Prop := ∀ x y z, x < n → y < n → z < n → hi h 77 (256 * x + 16 * y + z) = iN (thN A x y z A.length) ∧ hi h 78 (256 * x + 16 * y + z) = iN (thN B x y z A.length)
theorem thN_le {A : List Nat} {a b c m : Nat} : thN A a b c m ≤ m := cntN_le
set_option maxRecDepth 100000 in
set_option maxHeartbeats 16000000 in
theorem go_in {r : Nat → Nat} {a c : Nat} (s : ShM h) (v : MtV h n A B) (t : Th3 h n A B) (hc : c < n) (hac : a ≤ c) (hr : ∀ j, j ≤ c → r j < n) (hN : ∀ j, j ≤ c → hi h 79 j = iN (r j)) (f0 : Bool) : ∀ (w b : Nat), b + w = a + 1 → ∃ y4, ∀ R, qEv d 3 qk_244 42 [some (.ref 55), some (.int (iN c)), some (.int (bB (f0 && allN (eqT A B r c a) b))), some (.int (iN a)), some (.int (iN b))] [] h R ↔ qEv d 3 qk_244 118 [some (.ref 55), some (.int (iN c)), some (.int (bB (f0 && allN (eqT A B r c a) (a + 1)))), some (.int (iN a)), y4] [] h R := by
  have h16 := v.1.1
  have h208 := v.1.2.1
  have na := hN a hac
  have nc := hN c (Nat.le_refl _)
  have ra := hr a hac
  have rc := hr c (Nat.le_refl _)
  intro w
  induction w with
  | zero =>
    intro b hb
    have e : b = a + 1 := by omega
    subst e
    refine ⟨some (.int (iN (a + 1))), fun R => ?_⟩
    rw [e244_42]
    simp (disch := first | assumption | omega) only [e244_0, e244_1, e244_2, e244_3, e244_4, e244_5, e244_6, e244_9, e244_10, e244_13, e244_14, e244_15, e244_18, e244_19, e244_22, e244_23, e244_24, e244_25, e244_28, e244_29, e244_30, e244_33, e244_34, e244_37, e244_38, e244_39, e244_40, e244_44, e244_45, e244_48, e244_49, e244_52, e244_53, e244_56, e244_59, e244_60, e244_61, e244_63, e244_65, e244_66, e244_67, e244_68, e244_69, e244_70, e244_71, e244_74, e244_77, e244_78, e244_81, e244_82, e244_83, e244_84, e244_86, e244_87, e244_90, e244_92, e244_93, e244_94, e244_95, e244_96, e244_99, e244_100, e244_101, e244_102, e244_103, e244_106, e244_107, e244_110, e244_111, e244_112, e244_115, e244_121, e244_124, e244_125, m244, ↓reduceIte, qg_0, qg_1, qg_2, qg_3, qg_4, qg_5, qg_6, qg_7, qg_8, qg_9, qg_10, qg_11, qg_12, qg_13, not_true_eq_false, not_false_eq_true, Nat.reduceBEq, Bool.false_eq_true, ex1, ex3, ex4, exF, qfit_i, qfit_l, qfit_r, qfit_n, qfit_b0, qfit_b1, qcat_i, qcat_r, qcat_n, qcat_l, qroom_0, qroom_c, List.map_cons, List.map_nil, List.sum_cons, List.sum_nil, Nat.reduceAdd, Nat.reduceMul, Nat.reduceLT, Nat.reduceLeDiff, Nat.reduceEqDiff, Nat.reduceSub, decide_true, true_and, and_true, and_self, if_true, if_false, Option.toList_some, Option.toList_none, List.cons_append, List.nil_append, qsL, qlong, List.length_cons, List.length_nil, iN_L, vM1, vM2, exI, iN_add, iN_mul, iN_le, iN_lt, iN_eq, Nat.le_refl, qfN0, qfN1, show a < a + 1 by omega]
  | succ w ih =>
    intro b hb
    have hba : b ≤ a := by omega
    cases q : (f0 && allN (eqT A B r c a) b) with
    | false =>
      have qf : (f0 && allN (eqT A B r c a) (a + 1)) = false := by
        cases f0 with
        | false => rfl
        | true => rw [Bool.true_and] at q ⊢; exact allN_mono (by omega) q
      refine ⟨some (.int (iN b)), fun R => ?_⟩
      rw [qf, e244_42]
      simp (disch := first | assumption | omega) only [e244_0, e244_1, e244_2, e244_3, e244_4, e244_5, e244_6, e244_9, e244_10, e244_13, e244_14, e244_15, e244_18, e244_19, e244_22, e244_23, e244_24, e244_25, e244_28, e244_29, e244_30, e244_33, e244_34, e244_37, e244_38, e244_39, e244_40, e244_44, e244_45, e244_48, e244_49, e244_52, e244_53, e244_56, e244_59, e244_60, e244_61, e244_63, e244_65, e244_66, e244_67, e244_68, e244_69, e244_70, e244_71, e244_74, e244_77, e244_78, e244_81, e244_82, e244_83, e244_84, e244_86, e244_87, e244_90, e244_92, e244_93, e244_94, e244_95, e244_96, e244_99, e244_100, e244_101, e244_102, e244_103, e244_106, e244_107, e244_110, e244_111, e244_112, e244_115, e244_121, e244_124, e244_125, m244, ↓reduceIte, qg_0, qg_1, qg_2, qg_3, qg_4, qg_5, qg_6, qg_7, qg_8, qg_9, qg_10, qg_11, qg_12, qg_13, not_true_eq_false, not_false_eq_true, Nat.reduceBEq, Bool.false_eq_true, ex1, ex3, ex4, exF, qfit_i, qfit_l, qfit_r, qfit_n, qfit_b0, qfit_b1, qcat_i, qcat_r, qcat_n, qcat_l, qroom_0, qroom_c, List.map_cons, List.map_nil, List.sum_cons, List.sum_nil, Nat.reduceAdd, Nat.reduceMul, Nat.reduceLT, Nat.reduceLeDiff, Nat.reduceEqDiff, Nat.reduceSub, decide_true, true_and, and_true, and_self, if_true, if_false, Option.toList_some, Option.toList_none, List.cons_append, List.nil_append, qsL, qlong, List.length_cons, List.length_nil, iN_L, vM1, vM2, exI, iN_add, iN_mul, iN_le, iN_lt, iN_eq, Nat.le_refl, qfN0, qfN1, show ¬ a < b by omega, bB_f]
    | true =>
      obtain ⟨y4, ry⟩ := ih (b + 1) (by omega)
      refine ⟨y4, fun R => ?_⟩
      rw [← ry R]
      have qs : (f0 && allN (eqT A B r c a) (b + 1)) = eqT A B r c a b := by rw [allN, ← Bool.and_assoc, q, Bool.true_and]
      have nb := hN b (by omega)
      have rb := hr b (by omega)
      have t1 := (t a b c (by omega) (by omega) hc).1
      have t2 := (t (r a) (r b) (r c) ra rb rc).2
      have l1 := thN_le (A := A) (a := a) (b := b) (c := c) (m := A.length)
      have l2 := thN_le (A := B) (a := r a) (b := r b) (c := r c) (m := A.length)
      rw [qs, e244_42]
      unfold eqT
      by_cases g : thN A a b c A.length = thN B (r a) (r b) (r c) A.length
      · rw [decide_eq_true g]
        simp (disch := first | assumption | omega) only [e244_0, e244_1, e244_2, e244_3, e244_4, e244_5, e244_6, e244_9, e244_10, e244_13, e244_14, e244_15, e244_18, e244_19, e244_22, e244_23, e244_24, e244_25, e244_28, e244_29, e244_30, e244_33, e244_34, e244_37, e244_38, e244_39, e244_40, e244_44, e244_45, e244_48, e244_49, e244_52, e244_53, e244_56, e244_59, e244_60, e244_61, e244_63, e244_65, e244_66, e244_67, e244_68, e244_69, e244_70, e244_71, e244_74, e244_77, e244_78, e244_81, e244_82, e244_83, e244_84, e244_86, e244_87, e244_90, e244_92, e244_93, e244_94, e244_95, e244_96, e244_99, e244_100, e244_101, e244_102, e244_103, e244_106, e244_107, e244_110, e244_111, e244_112, e244_115, e244_121, e244_124, e244_125, m244, ↓reduceIte, qg_0, qg_1, qg_2, qg_3, qg_4, qg_5, qg_6, qg_7, qg_8, qg_9, qg_10, qg_11, qg_12, qg_13, not_true_eq_false, not_false_eq_true, Nat.reduceBEq, Bool.false_eq_true, ex1, ex3, ex4, exF, qfit_i, qfit_l, qfit_r, qfit_n, qfit_b0, qfit_b1, qcat_i, qcat_r, qcat_n, qcat_l, qroom_0, qroom_c, List.map_cons, List.map_nil, List.sum_cons, List.sum_nil, Nat.reduceAdd, Nat.reduceMul, Nat.reduceLT, Nat.reduceLeDiff, Nat.reduceEqDiff, Nat.reduceSub, decide_true, true_and, and_true, and_self, if_true, if_false, Option.toList_some, Option.toList_none, List.cons_append, List.nil_append, qsL, qlong, List.length_cons, List.length_nil, iN_L, vM1, vM2, exI, iN_add, iN_mul, iN_le, iN_lt, iN_eq, Nat.le_refl, qfN0, qfN1, show ¬ a < b by omega, bB_t, iN10, gM_29, gM_30, gM_31, rM_77, t1, rM_79, na, nb, nc, rM_78, t2, g]
      · rw [decide_eq_false g]
        simp (disch := first | assumption | omega) only [e244_0, e244_1, e244_2, e244_3, e244_4, e244_5, e244_6, e244_9, e244_10, e244_13, e244_14, e244_15, e244_18, e244_19, e244_22, e244_23, e244_24, e244_25, e244_28, e244_29, e244_30, e244_33, e244_34, e244_37, e244_38, e244_39, e244_40, e244_44, e244_45, e244_48, e244_49, e244_52, e244_53, e244_56, e244_59, e244_60, e244_61, e244_63, e244_65, e244_66, e244_67, e244_68, e244_69, e244_70, e244_71, e244_74, e244_77, e244_78, e244_81, e244_82, e244_83, e244_84, e244_86, e244_87, e244_90, e244_92, e244_93, e244_94, e244_95, e244_96, e244_99, e244_100, e244_101, e244_102, e244_103, e244_106, e244_107, e244_110, e244_111, e244_112, e244_115, e244_121, e244_124, e244_125, m244, ↓reduceIte, qg_0, qg_1, qg_2, qg_3, qg_4, qg_5, qg_6, qg_7, qg_8, qg_9, qg_10, qg_11, qg_12, qg_13, not_true_eq_false, not_false_eq_true, Nat.reduceBEq, Bool.false_eq_true, ex1, ex3, ex4, exF, qfit_i, qfit_l, qfit_r, qfit_n, qfit_b0, qfit_b1, qcat_i, qcat_r, qcat_n, qcat_l, qroom_0, qroom_c, List.map_cons, List.map_nil, List.sum_cons, List.sum_nil, Nat.reduceAdd, Nat.reduceMul, Nat.reduceLT, Nat.reduceLeDiff, Nat.reduceEqDiff, Nat.reduceSub, decide_true, true_and, and_true, and_self, if_true, if_false, Option.toList_some, Option.toList_none, List.cons_append, List.nil_append, qsL, qlong, List.length_cons, List.length_nil, iN_L, vM1, vM2, exI, iN_add, iN_mul, iN_le, iN_lt, iN_eq, Nat.le_refl, qfN0, qfN1, show ¬ a < b by omega, bB_t, bB_f, iN10, gM_29, gM_30, gM_31, rM_77, t1, rM_79, na, nb, nc, rM_78, t2, g]
set_option maxRecDepth 100000 in
set_option maxHeartbeats 16000000 in
theorem s_goes {r : Nat → Nat} {c : Nat} (s : ShM h) (v : MtV h n A B) (t : Th3 h n A B) (hc : c < n) (hr : ∀ j, j ≤ c → r j < n) (hN : ∀ j, j ≤ c → hi h 79 j = iN (r j)) (R : qRes) : qMC (d + 1) 244 [.ref 55, .int (iN c)] h R ↔ R = (some (.int (bB (goB A B r c))), h) := by
  have h16 := v.1.1
  have nc := hN c (Nat.le_refl _)
  have rc := hr c (Nat.le_refl _)
  have key : ∀ (w a : Nat) (x4 : Option Value), a + w = c + 1 → (qEv d 3 qk_244 4 [some (.ref 55), some (.int (iN c)), some (.int (bB (allN (goA A B r c) a))), some (.int (iN a)), x4] [] h R ↔ R = (some (.int (bB (goB A B r c))), h)) := by
    intro w
    induction w with
    | zero =>
      intro a x4 ha
      have e : a = c + 1 := by omega
      subst e
      rw [e244_4]
      simp (disch := first | assumption | omega) only [e244_0, e244_1, e244_2, e244_3, e244_5, e244_6, e244_9, e244_10, e244_13, e244_14, e244_15, e244_18, e244_19, e244_22, e244_23, e244_24, e244_25, e244_28, e244_29, e244_30, e244_33, e244_34, e244_37, e244_38, e244_39, e244_40, e244_42, e244_44, e244_45, e244_48, e244_49, e244_52, e244_53, e244_56, e244_59, e244_60, e244_61, e244_63, e244_65, e244_66, e244_67, e244_68, e244_69, e244_70, e244_71, e244_74, e244_77, e244_78, e244_81, e244_82, e244_83, e244_84, e244_86, e244_87, e244_90, e244_92, e244_93, e244_94, e244_95, e244_96, e244_99, e244_100, e244_101, e244_102, e244_103, e244_106, e244_107, e244_110, e244_111, e244_112, e244_115, e244_118, e244_121, e244_124, e244_125, m244, ↓reduceIte, qg_0, qg_1, qg_2, qg_3, qg_4, qg_5, qg_6, qg_7, qg_8, qg_9, qg_10, qg_11, qg_12, qg_13, not_true_eq_false, not_false_eq_true, Nat.reduceBEq, Bool.false_eq_true, ex1, ex3, ex4, exF, qfit_i, qfit_l, qfit_r, qfit_n, qfit_b0, qfit_b1, qcat_i, qcat_r, qcat_n, qcat_l, qroom_0, qroom_c, List.map_cons, List.map_nil, List.sum_cons, List.sum_nil, Nat.reduceAdd, Nat.reduceMul, Nat.reduceLT, Nat.reduceLeDiff, Nat.reduceEqDiff, Nat.reduceSub, decide_true, true_and, and_true, and_self, if_true, if_false, Option.toList_some, Option.toList_none, List.cons_append, List.nil_append, qsL, qlong, List.length_cons, List.length_nil, iN_L, vM1, vM2, exI, iN_add, iN_mul, iN_le, iN_lt, iN_eq, Nat.le_refl, qfN0, qfN1, show c < c + 1 by omega, bB_fit]
      exact Iff.rfl
    | succ w ih =>
      intro a x4 ha
      have hac : a ≤ c := by omega
      cases q : allN (goA A B r c) a with
      | false =>
        have : goB A B r c = false := allN_mono (by omega) q
        rw [this, e244_4]
        simp (disch := first | assumption | omega) only [e244_0, e244_1, e244_2, e244_3, e244_5, e244_6, e244_9, e244_10, e244_13, e244_14, e244_15, e244_18, e244_19, e244_22, e244_23, e244_24, e244_25, e244_28, e244_29, e244_30, e244_33, e244_34, e244_37, e244_38, e244_39, e244_40, e244_42, e244_44, e244_45, e244_48, e244_49, e244_52, e244_53, e244_56, e244_59, e244_60, e244_61, e244_63, e244_65, e244_66, e244_67, e244_68, e244_69, e244_70, e244_71, e244_74, e244_77, e244_78, e244_81, e244_82, e244_83, e244_84, e244_86, e244_87, e244_90, e244_92, e244_93, e244_94, e244_95, e244_96, e244_99, e244_100, e244_101, e244_102, e244_103, e244_106, e244_107, e244_110, e244_111, e244_112, e244_115, e244_118, e244_121, e244_124, e244_125, m244, ↓reduceIte, qg_0, qg_1, qg_2, qg_3, qg_4, qg_5, qg_6, qg_7, qg_8, qg_9, qg_10, qg_11, qg_12, qg_13, not_true_eq_false, not_false_eq_true, Nat.reduceBEq, Bool.false_eq_true, ex1, ex3, ex4, exF, qfit_i, qfit_l, qfit_r, qfit_n, qfit_b0, qfit_b1, qcat_i, qcat_r, qcat_n, qcat_l, qroom_0, qroom_c, List.map_cons, List.map_nil, List.sum_cons, List.sum_nil, Nat.reduceAdd, Nat.reduceMul, Nat.reduceLT, Nat.reduceLeDiff, Nat.reduceEqDiff, Nat.reduceSub, decide_true, true_and, and_true, and_self, if_true, if_false, Option.toList_some, Option.toList_none, List.cons_append, List.nil_append, qsL, qlong, List.length_cons, List.length_nil, iN_L, vM1, vM2, exI, iN_add, iN_mul, iN_le, iN_lt, iN_eq, Nat.le_refl, qfN0, qfN1, show ¬ c < a by omega, bB_f]
      | true =>
        have na := hN a hac
        have ra := hr a hac
        obtain ⟨y4, ry⟩ := go_in (d := d) s v t hc hac hr hN (decide (a = c) || decide (r a ≠ r c)) (a + 1) 0 (by omega)
        have eq : allN (goA A B r c) (a + 1) = ((decide (a = c) || decide (r a ≠ r c)) && allN (eqT A B r c a) (a + 1)) := by rw [allN, q, Bool.true_and]; rfl
        rw [← ih (a + 1) y4 (by omega), eq]
        have st : qEv d 3 qk_244 4 [some (.ref 55), some (.int (iN c)), some (.int (bB true)), some (.int (iN a)), x4] [] h R ↔ qEv d 3 qk_244 42 [some (.ref 55), some (.int (iN c)), some (.int (bB ((decide (a = c) || decide (r a ≠ r c)) && allN (eqT A B r c a) 0))), some (.int (iN a)), some (.int (iN 0))] [] h R := by
          rw [e244_4, show allN (eqT A B r c a) 0 = true from rfl, Bool.and_true]
          by_cases g : a = c
          · rw [decide_eq_true g, Bool.true_or]
            simp (disch := first | assumption | omega) only [e244_0, e244_1, e244_2, e244_3, e244_5, e244_6, e244_9, e244_10, e244_13, e244_14, e244_15, e244_18, e244_19, e244_22, e244_23, e244_24, e244_25, e244_28, e244_29, e244_30, e244_33, e244_34, e244_37, e244_38, e244_39, e244_40, e244_44, e244_45, e244_48, e244_49, e244_52, e244_53, e244_56, e244_59, e244_60, e244_61, e244_63, e244_65, e244_66, e244_67, e244_68, e244_69, e244_70, e244_71, e244_74, e244_77, e244_78, e244_81, e244_82, e244_83, e244_84, e244_86, e244_87, e244_90, e244_92, e244_93, e244_94, e244_95, e244_96, e244_99, e244_100, e244_101, e244_102, e244_103, e244_106, e244_107, e244_110, e244_111, e244_112, e244_115, e244_118, e244_121, e244_124, e244_125, m244, ↓reduceIte, qg_0, qg_1, qg_2, qg_3, qg_4, qg_5, qg_6, qg_7, qg_8, qg_9, qg_10, qg_11, qg_12, qg_13, not_true_eq_false, not_false_eq_true, Nat.reduceBEq, Bool.false_eq_true, ex1, ex3, ex4, exF, qfit_i, qfit_l, qfit_r, qfit_n, qfit_b0, qfit_b1, qcat_i, qcat_r, qcat_n, qcat_l, qroom_0, qroom_c, List.map_cons, List.map_nil, List.sum_cons, List.sum_nil, Nat.reduceAdd, Nat.reduceMul, Nat.reduceLT, Nat.reduceLeDiff, Nat.reduceEqDiff, Nat.reduceSub, decide_true, true_and, and_true, and_self, if_true, if_false, Option.toList_some, Option.toList_none, List.cons_append, List.nil_append, qsL, qlong, List.length_cons, List.length_nil, iN_L, vM1, vM2, exI, iN_add, iN_mul, iN_le, iN_lt, iN_eq, Nat.le_refl, qfN0, qfN1, show ¬ c < a by omega, bB_t, iN10, g, Nat.lt_irrefl]
          · by_cases g2 : r a = r c
            · rw [decide_eq_false g, decide_eq_false (fun z => z g2), Bool.or_false]
              simp (disch := first | assumption | omega) only [e244_0, e244_1, e244_2, e244_3, e244_5, e244_6, e244_9, e244_10, e244_13, e244_14, e244_15, e244_18, e244_19, e244_22, e244_23, e244_24, e244_25, e244_28, e244_29, e244_30, e244_33, e244_34, e244_37, e244_38, e244_39, e244_40, e244_44, e244_45, e244_48, e244_49, e244_52, e244_53, e244_56, e244_59, e244_60, e244_61, e244_63, e244_65, e244_66, e244_67, e244_68, e244_69, e244_70, e244_71, e244_74, e244_77, e244_78, e244_81, e244_82, e244_83, e244_84, e244_86, e244_87, e244_90, e244_92, e244_93, e244_94, e244_95, e244_96, e244_99, e244_100, e244_101, e244_102, e244_103, e244_106, e244_107, e244_110, e244_111, e244_112, e244_115, e244_118, e244_121, e244_124, e244_125, m244, ↓reduceIte, qg_0, qg_1, qg_2, qg_3, qg_4, qg_5, qg_6, qg_7, qg_8, qg_9, qg_10, qg_11, qg_12, qg_13, not_true_eq_false, not_false_eq_true, Nat.reduceBEq, Bool.false_eq_true, ex1, ex3, ex4, exF, qfit_i, qfit_l, qfit_r, qfit_n, qfit_b0, qfit_b1, qcat_i, qcat_r, qcat_n, qcat_l, qroom_0, qroom_c, List.map_cons, List.map_nil, List.sum_cons, List.sum_nil, Nat.reduceAdd, Nat.reduceMul, Nat.reduceLT, Nat.reduceLeDiff, Nat.reduceEqDiff, Nat.reduceSub, decide_true, true_and, and_true, and_self, if_true, if_false, Option.toList_some, Option.toList_none, List.cons_append, List.nil_append, qsL, qlong, List.length_cons, List.length_nil, iN_L, vM1, vM2, exI, iN_add, iN_mul, iN_le, iN_lt, iN_eq, Nat.le_refl, qfN0, qfN1, show ¬ c < a by omega, bB_t, bB_f, iN10, g, gM_31, rM_79, na, nc, g2]
            · rw [decide_eq_false g, decide_eq_true g2, Bool.false_or]
              simp (disch := first | assumption | omega) only [e244_0, e244_1, e244_2, e244_3, e244_5, e244_6, e244_9, e244_10, e244_13, e244_14, e244_15, e244_18, e244_19, e244_22, e244_23, e244_24, e244_25, e244_28, e244_29, e244_30, e244_33, e244_34, e244_37, e244_38, e244_39, e244_40, e244_44, e244_45, e244_48, e244_49, e244_52, e244_53, e244_56, e244_59, e244_60, e244_61, e244_63, e244_65, e244_66, e244_67, e244_68, e244_69, e244_70, e244_71, e244_74, e244_77, e244_78, e244_81, e244_82, e244_83, e244_84, e244_86, e244_87, e244_90, e244_92, e244_93, e244_94, e244_95, e244_96, e244_99, e244_100, e244_101, e244_102, e244_103, e244_106, e244_107, e244_110, e244_111, e244_112, e244_115, e244_118, e244_121, e244_124, e244_125, m244, ↓reduceIte, qg_0, qg_1, qg_2, qg_3, qg_4, qg_5, qg_6, qg_7, qg_8, qg_9, qg_10, qg_11, qg_12, qg_13, not_true_eq_false, not_false_eq_true, Nat.reduceBEq, Bool.false_eq_true, ex1, ex3, ex4, exF, qfit_i, qfit_l, qfit_r, qfit_n, qfit_b0, qfit_b1, qcat_i, qcat_r, qcat_n, qcat_l, qroom_0, qroom_c, List.map_cons, List.map_nil, List.sum_cons, List.sum_nil, Nat.reduceAdd, Nat.reduceMul, Nat.reduceLT, Nat.reduceLeDiff, Nat.reduceEqDiff, Nat.reduceSub, decide_true, true_and, and_true, and_self, if_true, if_false, Option.toList_some, Option.toList_none, List.cons_append, List.nil_append, qsL, qlong, List.length_cons, List.length_nil, iN_L, vM1, vM2, exI, iN_add, iN_mul, iN_le, iN_lt, iN_eq, Nat.le_refl, qfN0, qfN1, show ¬ c < a by omega, bB_t, bB_f, iN10, g, gM_31, rM_79, na, nc, g2]
        rw [st, ry R]
        simp (disch := first | assumption | omega) only [e244_0, e244_1, e244_2, e244_3, e244_5, e244_6, e244_9, e244_10, e244_13, e244_14, e244_15, e244_18, e244_19, e244_22, e244_23, e244_24, e244_25, e244_28, e244_29, e244_30, e244_33, e244_34, e244_37, e244_38, e244_39, e244_40, e244_44, e244_45, e244_48, e244_49, e244_52, e244_53, e244_56, e244_59, e244_60, e244_61, e244_63, e244_65, e244_66, e244_67, e244_68, e244_69, e244_70, e244_71, e244_74, e244_77, e244_78, e244_81, e244_82, e244_83, e244_84, e244_86, e244_87, e244_90, e244_92, e244_93, e244_94, e244_95, e244_96, e244_99, e244_100, e244_101, e244_102, e244_103, e244_106, e244_107, e244_110, e244_111, e244_112, e244_115, e244_118, e244_121, e244_124, e244_125, m244, ↓reduceIte, qg_0, qg_1, qg_2, qg_3, qg_4, qg_5, qg_6, qg_7, qg_8, qg_9, qg_10, qg_11, qg_12, qg_13, not_true_eq_false, not_false_eq_true, Nat.reduceBEq, Bool.false_eq_true, ex1, ex3, ex4, exF, qfit_i, qfit_l, qfit_r, qfit_n, qfit_b0, qfit_b1, qcat_i, qcat_r, qcat_n, qcat_l, qroom_0, qroom_c, List.map_cons, List.map_nil, List.sum_cons, List.sum_nil, Nat.reduceAdd, Nat.reduceMul, Nat.reduceLT, Nat.reduceLeDiff, Nat.reduceEqDiff, Nat.reduceSub, decide_true, true_and, and_true, and_self, if_true, if_false, Option.toList_some, Option.toList_none, List.cons_append, List.nil_append, qsL, qlong, List.length_cons, List.length_nil, iN_L, vM1, vM2, exI, iN_add, iN_mul, iN_le, iN_lt, iN_eq, Nat.le_refl, qfN0, qfN1]
  have r0 : qMC (d + 1) 244 [.ref 55, .int (iN c)] h R ↔ qEv d 3 qk_244 4 [some (.ref 55), some (.int (iN c)), some (.int (bB (allN (goA A B r c) 0))), some (.int (iN 0)), none] [] h R := by
    simp (disch := first | assumption | omega) only [e244_0, e244_1, e244_2, e244_3, e244_5, e244_6, e244_9, e244_10, e244_13, e244_14, e244_15, e244_18, e244_19, e244_22, e244_23, e244_24, e244_25, e244_28, e244_29, e244_30, e244_33, e244_34, e244_37, e244_38, e244_39, e244_40, e244_42, e244_44, e244_45, e244_48, e244_49, e244_52, e244_53, e244_56, e244_59, e244_60, e244_61, e244_63, e244_65, e244_66, e244_67, e244_68, e244_69, e244_70, e244_71, e244_74, e244_77, e244_78, e244_81, e244_82, e244_83, e244_84, e244_86, e244_87, e244_90, e244_92, e244_93, e244_94, e244_95, e244_96, e244_99, e244_100, e244_101, e244_102, e244_103, e244_106, e244_107, e244_110, e244_111, e244_112, e244_115, e244_118, e244_121, e244_124, e244_125, m244, ↓reduceIte, qg_0, qg_1, qg_2, qg_3, qg_4, qg_5, qg_6, qg_7, qg_8, qg_9, qg_10, qg_11, qg_12, qg_13, not_true_eq_false, not_false_eq_true, Nat.reduceBEq, Bool.false_eq_true, ex1, ex3, ex4, exF, qfit_i, qfit_l, qfit_r, qfit_n, qfit_b0, qfit_b1, qcat_i, qcat_r, qcat_n, qcat_l, qroom_0, qroom_c, List.map_cons, List.map_nil, List.sum_cons, List.sum_nil, Nat.reduceAdd, Nat.reduceMul, Nat.reduceLT, Nat.reduceLeDiff, Nat.reduceEqDiff, Nat.reduceSub, decide_true, true_and, and_true, and_self, if_true, if_false, Option.toList_some, Option.toList_none, List.cons_append, List.nil_append, qsL, qlong, List.length_cons, List.length_nil, iN_L, vM1, vM2, exI, iN_add, iN_mul, iN_le, iN_lt, iN_eq, Nat.le_refl, qfN0, qfN1, show allN (goA A B r c) 0 = true from rfl, bB_t]
  rw [r0]
  exact key (c + 1) 0 none (by omega)
/-- every set becomes one of B -/
def imB (n : Nat) (A B : List Nat) (r : Nat → Nat) (m : Nat) : Bool := allN (fun s => decide (imS r (A.getD s 0) n ∈ B)) m
theorem imS_lt {r : Nat → Nat} {x : Nat} (h16 : n ≤ 16) (hr : ∀ j, j < n → r j < n) : ∀ k, k ≤ n → imS r x k < 65536
  | 0, _ => by show 0 < 65536; omega
  | k + 1, hk => by
    rw [imS]
    refine Nat.or_lt_two_pow (n := 16) (imS_lt h16 hr k (by omega)) ?_
    split
    · exact Nat.pow_lt_pow_right (by decide) (by have := hr k (by omega); omega)
    · decide
set_option maxRecDepth 100000 in
set_option maxHeartbeats 16000000 in
theorem s_isRenamed {r : Nat → Nat} (s : ShM h) (v : MtV h n A B) (hr : ∀ j, j < n → r j < n) (hN : ∀ j, j < n → hi h 79 j = iN (r j)) (R : qRes) : qMC (d + 1) 245 [.ref 55] h R ↔ R = (some (.int (bB (imB n A B r A.length))), h) := by
  obtain ⟨⟨h16, h208, hBl⟩, m25, m28, vA, vB⟩ := v
  have key : ∀ (w t : Nat) (x3 x4 x5 : Option Value), t + w = A.length → (qEv d 3 qk_245 4 [some (.ref 55), some (.int (bB (imB n A B r t))), some (.int (iN t)), x3, x4, x5] [] h R ↔ R = (some (.int (bB (imB n A B r A.length))), h)) := by
    intro w
    induction w with
    | zero =>
      intro t x3 x4 x5 ht
      have e : t = A.length := by omega
      subst e
      rw [e245_4]
      simp (disch := first | assumption | omega) only [e245_0, e245_1, e245_2, e245_3, e245_5, e245_6, e245_9, e245_12, e245_13, e245_16, e245_17, e245_18, e245_19, e245_21, e245_23, e245_24, e245_27, e245_30, e245_31, e245_32, e245_35, e245_36, e245_37, e245_39, e245_40, e245_41, e245_42, e245_43, e245_46, e245_47, e245_48, e245_51, e245_53, e245_54, e245_55, e245_58, e245_59, e245_60, e245_61, e245_64, e245_67, e245_68, e245_70, e245_71, e245_73, e245_75, e245_76, e245_79, e245_82, e245_84, e245_87, e245_88, e245_91, e245_93, e245_94, e245_95, e245_98, e245_99, e245_102, e245_103, e245_105, e245_108, e245_111, e245_113, e245_114, e245_117, e245_120, e245_121, m245, ↓reduceIte, qg_0, qg_1, qg_2, qg_3, qg_4, qg_5, qg_6, qg_7, qg_8, qg_9, qg_10, qg_11, qg_12, qg_13, not_true_eq_false, not_false_eq_true, Nat.reduceBEq, Bool.false_eq_true, ex1, ex3, ex4, exF, qfit_i, qfit_l, qfit_r, qfit_n, qfit_b0, qfit_b1, qcat_i, qcat_r, qcat_n, qcat_l, qroom_0, qroom_c, List.map_cons, List.map_nil, List.sum_cons, List.sum_nil, Nat.reduceAdd, Nat.reduceMul, Nat.reduceLT, Nat.reduceLeDiff, Nat.reduceEqDiff, Nat.reduceSub, decide_true, true_and, and_true, and_self, if_true, if_false, Option.toList_some, Option.toList_none, List.cons_append, List.nil_append, qsL, qlong, List.length_cons, List.length_nil, iN_L, vM1, vM2, exI, iN_add, iN_mul, iN_le, iN_lt, iN_eq, Nat.le_refl, qfN0, qfN1, gM_28, m28, bB_fit]
    | succ w ih =>
      intro t x3 x4 x5 ht
      have htl : t < A.length := by omega
      cases q : imB n A B r t with
      | false =>
        have : imB n A B r A.length = false := allN_mono (by omega) q
        rw [this, e245_4]
        simp (disch := first | assumption | omega) only [e245_0, e245_1, e245_2, e245_3, e245_5, e245_6, e245_9, e245_12, e245_13, e245_16, e245_17, e245_18, e245_19, e245_21, e245_23, e245_24, e245_27, e245_30, e245_31, e245_32, e245_35, e245_36, e245_37, e245_39, e245_40, e245_41, e245_42, e245_43, e245_46, e245_47, e245_48, e245_51, e245_53, e245_54, e245_55, e245_58, e245_59, e245_60, e245_61, e245_64, e245_67, e245_68, e245_70, e245_71, e245_73, e245_75, e245_76, e245_79, e245_82, e245_84, e245_87, e245_88, e245_91, e245_93, e245_94, e245_95, e245_98, e245_99, e245_102, e245_103, e245_105, e245_108, e245_111, e245_113, e245_114, e245_117, e245_120, e245_121, m245, ↓reduceIte, qg_0, qg_1, qg_2, qg_3, qg_4, qg_5, qg_6, qg_7, qg_8, qg_9, qg_10, qg_11, qg_12, qg_13, not_true_eq_false, not_false_eq_true, Nat.reduceBEq, Bool.false_eq_true, ex1, ex3, ex4, exF, qfit_i, qfit_l, qfit_r, qfit_n, qfit_b0, qfit_b1, qcat_i, qcat_r, qcat_n, qcat_l, qroom_0, qroom_c, List.map_cons, List.map_nil, List.sum_cons, List.sum_nil, Nat.reduceAdd, Nat.reduceMul, Nat.reduceLT, Nat.reduceLeDiff, Nat.reduceEqDiff, Nat.reduceSub, decide_true, true_and, and_true, and_self, if_true, if_false, Option.toList_some, Option.toList_none, List.cons_append, List.nil_append, qsL, qlong, List.length_cons, List.length_nil, iN_L, vM1, vM2, exI, iN_add, iN_mul, iN_le, iN_lt, iN_eq, Nat.le_refl, qfN0, qfN1, gM_28, m28, show ¬ A.length ≤ t by omega, bB_f]
      | true =>
        obtain ⟨a1, a2⟩ := vA t htl
        obtain ⟨y, ey⟩ : ∃ y, y = A.getD t 0 := ⟨_, rfl⟩
        rw [← ey] at a1 a2
        have il := imS_lt (x := y) h16 hr n (Nat.le_refl _)
        have st : qEv d 3 qk_245 4 [some (.ref 55), some (.int (bB true)), some (.int (iN t)), x3, x4, x5] [] h R ↔ qEv d 3 qk_245 21 [some (.ref 55), some (.int (bB true)), some (.int (iN t)), some (.int (iN (imS r y 0))), some (.int (iN 0)), x5] [] h R := by
          rw [e245_4]
          simp (disch := first | assumption | omega) only [e245_0, e245_1, e245_2, e245_3, e245_5, e245_6, e245_9, e245_12, e245_13, e245_16, e245_17, e245_18, e245_19, e245_23, e245_24, e245_27, e245_30, e245_31, e245_32, e245_35, e245_36, e245_37, e245_39, e245_40, e245_41, e245_42, e245_43, e245_46, e245_47, e245_48, e245_51, e245_53, e245_54, e245_55, e245_58, e245_59, e245_60, e245_61, e245_64, e245_67, e245_68, e245_70, e245_71, e245_73, e245_75, e245_76, e245_79, e245_82, e245_84, e245_87, e245_88, e245_91, e245_93, e245_94, e245_95, e245_98, e245_99, e245_102, e245_103, e245_105, e245_108, e245_111, e245_113, e245_114, e245_117, e245_120, e245_121, m245, ↓reduceIte, qg_0, qg_1, qg_2, qg_3, qg_4, qg_5, qg_6, qg_7, qg_8, qg_9, qg_10, qg_11, qg_12, qg_13, not_true_eq_false, not_false_eq_true, Nat.reduceBEq, Bool.false_eq_true, ex1, ex3, ex4, exF, qfit_i, qfit_l, qfit_r, qfit_n, qfit_b0, qfit_b1, qcat_i, qcat_r, qcat_n, qcat_l, qroom_0, qroom_c, List.map_cons, List.map_nil, List.sum_cons, List.sum_nil, Nat.reduceAdd, Nat.reduceMul, Nat.reduceLT, Nat.reduceLeDiff, Nat.reduceEqDiff, Nat.reduceSub, decide_true, true_and, and_true, and_self, if_true, if_false, Option.toList_some, Option.toList_none, List.cons_append, List.nil_append, qsL, qlong, List.length_cons, List.length_nil, iN_L, vM1, vM2, exI, iN_add, iN_mul, iN_le, iN_lt, iN_eq, Nat.le_refl, qfN0, qfN1, gM_28, m28, show ¬ A.length ≤ t by omega, bB_t, iN10]
          exact Iff.rfl
        rw [st]
        refine Iff.trans (loop_up (n := n) (L := fun c => [some (.ref 55), some (.int (bB true)), some (.int (iN t)), some (.int (iN (imS r y c))), some (.int (iN c)), x5]) (H := fun _ => h) ?_) ?_
        · intro c hc
          try dsimp only
          have nc := hN c hc
          have rc := hr c hc
          rw [e245_21, imS]
          cases g : y.testBit c with
          | true =>
            have bt := bit1 (m := y) (p := c) (by omega) (by omega) g
            rw [if_pos rfl]
            simp (disch := first | assumption | omega) only [e245_0, e245_1, e245_2, e245_3, e245_4, e245_5, e245_6, e245_9, e245_12, e245_13, e245_16, e245_17, e245_18, e245_19, e245_23, e245_24, e245_27, e245_30, e245_31, e245_32, e245_35, e245_36, e245_37, e245_39, e245_40, e245_41, e245_42, e245_43, e245_46, e245_47, e245_48, e245_51, e245_53, e245_54, e245_55, e245_58, e245_59, e245_60, e245_61, e245_64, e245_68, e245_70, e245_71, e245_73, e245_75, e245_76, e245_79, e245_82, e245_84, e245_87, e245_88, e245_91, e245_93, e245_94, e245_95, e245_98, e245_99, e245_102, e245_103, e245_105, e245_108, e245_111, e245_113, e245_114, e245_117, e245_120, e245_121, m245, ↓reduceIte, qg_0, qg_1, qg_2, qg_3, qg_4, qg_5, qg_6, qg_7, qg_8, qg_9, qg_10, qg_11, qg_12, qg_13, not_true_eq_false, not_false_eq_true, Nat.reduceBEq, Bool.false_eq_true, ex1, ex3, ex4, exF, qfit_i, qfit_l, qfit_r, qfit_n, qfit_b0, qfit_b1, qcat_i, qcat_r, qcat_n, qcat_l, qroom_0, qroom_c, List.map_cons, List.map_nil, List.sum_cons, List.sum_nil, Nat.reduceAdd, Nat.reduceMul, Nat.reduceLT, Nat.reduceLeDiff, Nat.reduceEqDiff, Nat.reduceSub, decide_true, true_and, and_true, and_self, if_true, if_false, Option.toList_some, Option.toList_none, List.cons_append, List.nil_append, qsL, qlong, List.length_cons, List.length_nil, iN_L, vM1, vM2, exI, iN_add, iN_mul, iN_le, iN_lt, iN_eq, Nat.le_refl, qfN0, qfN1, gM_25, m25, show ¬ n ≤ c by omega, gM_26, rM_75, a1, bt, gM_31, rM_79, nc, iN_shl1, iN_or]
          | false =>
            have bt := bit0 (m := y) (p := c) (by omega) (by omega) g
            rw [if_neg Bool.false_ne_true]
            simp (disch := first | assumption | omega) only [e245_0, e245_1, e245_2, e245_3, e245_4, e245_5, e245_6, e245_9, e245_12, e245_13, e245_16, e245_17, e245_18, e245_19, e245_23, e245_24, e245_27, e245_30, e245_31, e245_32, e245_35, e245_36, e245_37, e245_39, e245_40, e245_41, e245_42, e245_43, e245_46, e245_47, e245_48, e245_51, e245_53, e245_54, e245_55, e245_58, e245_59, e245_60, e245_61, e245_64, e245_68, e245_70, e245_71, e245_73, e245_75, e245_76, e245_79, e245_82, e245_84, e245_87, e245_88, e245_91, e245_93, e245_94, e245_95, e245_98, e245_99, e245_102, e245_103, e245_105, e245_108, e245_111, e245_113, e245_114, e245_117, e245_120, e245_121, m245, ↓reduceIte, qg_0, qg_1, qg_2, qg_3, qg_4, qg_5, qg_6, qg_7, qg_8, qg_9, qg_10, qg_11, qg_12, qg_13, not_true_eq_false, not_false_eq_true, Nat.reduceBEq, Bool.false_eq_true, ex1, ex3, ex4, exF, qfit_i, qfit_l, qfit_r, qfit_n, qfit_b0, qfit_b1, qcat_i, qcat_r, qcat_n, qcat_l, qroom_0, qroom_c, List.map_cons, List.map_nil, List.sum_cons, List.sum_nil, Nat.reduceAdd, Nat.reduceMul, Nat.reduceLT, Nat.reduceLeDiff, Nat.reduceEqDiff, Nat.reduceSub, decide_true, true_and, and_true, and_self, if_true, if_false, Option.toList_some, Option.toList_none, List.cons_append, List.nil_append, qsL, qlong, List.length_cons, List.length_nil, iN_L, vM1, vM2, exI, iN_add, iN_mul, iN_le, iN_lt, iN_eq, Nat.le_refl, qfN0, qfN1, gM_25, m25, show ¬ n ≤ c by omega, gM_26, rM_75, a1, bt, show ¬ iN 0 = iN 1 by decide, iN_or]
        · try dsimp only
          have st2 : qEv d 3 qk_245 21 [some (.ref 55), some (.int (bB true)), some (.int (iN t)), some (.int (iN (imS r y n))), some (.int (iN n)), x5] [] h R ↔ qEv d 3 qk_245 73 [some (.ref 55), some (.int (bB true)), some (.int (iN t)), some (.int (iN (imS r y n))), some (.int (bB (anyN (fun j => decide (B.getD j 0 = imS r y n)) 0))), some (.int (iN 0))] [] h R := by
            rw [e245_21]
            simp (disch := first | assumption | omega) only [e245_0, e245_1, e245_2, e245_3, e245_4, e245_5, e245_6, e245_9, e245_12, e245_13, e245_16, e245_17, e245_18, e245_19, e245_23, e245_24, e245_27, e245_30, e245_31, e245_32, e245_35, e245_36, e245_37, e245_39, e245_40, e245_41, e245_42, e245_43, e245_46, e245_47, e245_48, e245_51, e245_53, e245_54, e245_55, e245_58, e245_59, e245_60, e245_61, e245_64, e245_67, e245_68, e245_70, e245_71, e245_75, e245_76, e245_79, e245_82, e245_84, e245_87, e245_88, e245_91, e245_93, e245_94, e245_95, e245_98, e245_99, e245_102, e245_103, e245_105, e245_108, e245_111, e245_113, e245_114, e245_117, e245_120, e245_121, m245, ↓reduceIte, qg_0, qg_1, qg_2, qg_3, qg_4, qg_5, qg_6, qg_7, qg_8, qg_9, qg_10, qg_11, qg_12, qg_13, not_true_eq_false, not_false_eq_true, Nat.reduceBEq, Bool.false_eq_true, ex1, ex3, ex4, exF, qfit_i, qfit_l, qfit_r, qfit_n, qfit_b0, qfit_b1, qcat_i, qcat_r, qcat_n, qcat_l, qroom_0, qroom_c, List.map_cons, List.map_nil, List.sum_cons, List.sum_nil, Nat.reduceAdd, Nat.reduceMul, Nat.reduceLT, Nat.reduceLeDiff, Nat.reduceEqDiff, Nat.reduceSub, decide_true, true_and, and_true, and_self, if_true, if_false, Option.toList_some, Option.toList_none, List.cons_append, List.nil_append, qsL, qlong, List.length_cons, List.length_nil, iN_L, vM1, vM2, exI, iN_add, iN_mul, iN_le, iN_lt, iN_eq, Nat.le_refl, qfN0, qfN1, gM_25, m25]
            exact Iff.rfl
          rw [st2]
          refine Iff.trans (loop_up (n := A.length) (L := fun j => [some (.ref 55), some (.int (bB true)), some (.int (iN t)), some (.int (iN (imS r y n))), some (.int (bB (anyN (fun j => decide (B.getD j 0 = imS r y n)) j))), some (.int (iN j))]) (H := fun _ => h) ?_) ?_
          · intro j hj
            try dsimp only
            obtain ⟨b1, b2⟩ := vB j hj
            rw [e245_73, anyN]
            cases anyN (fun j => decide (B.getD j 0 = imS r y n)) j with
            | true =>
              rw [Bool.true_or]
              simp (disch := first | assumption | omega) only [e245_0, e245_1, e245_2, e245_3, e245_4, e245_5, e245_6, e245_9, e245_12, e245_13, e245_16, e245_17, e245_18, e245_19, e245_21, e245_23, e245_24, e245_27, e245_30, e245_31, e245_32, e245_35, e245_36, e245_37, e245_39, e245_40, e245_41, e245_42, e245_43, e245_46, e245_47, e245_48, e245_51, e245_53, e245_54, e245_55, e245_58, e245_59, e245_60, e245_61, e245_64, e245_67, e245_68, e245_70, e245_71, e245_75, e245_76, e245_79, e245_82, e245_84, e245_87, e245_88, e245_91, e245_93, e245_94, e245_95, e245_98, e245_99, e245_102, e245_103, e245_105, e245_108, e245_113, e245_114, e245_117, e245_120, e245_121, m245, ↓reduceIte, qg_0, qg_1, qg_2, qg_3, qg_4, qg_5, qg_6, qg_7, qg_8, qg_9, qg_10, qg_11, qg_12, qg_13, not_true_eq_false, not_false_eq_true, Nat.reduceBEq, Bool.false_eq_true, ex1, ex3, ex4, exF, qfit_i, qfit_l, qfit_r, qfit_n, qfit_b0, qfit_b1, qcat_i, qcat_r, qcat_n, qcat_l, qroom_0, qroom_c, List.map_cons, List.map_nil, List.sum_cons, List.sum_nil, Nat.reduceAdd, Nat.reduceMul, Nat.reduceLT, Nat.reduceLeDiff, Nat.reduceEqDiff, Nat.reduceSub, decide_true, true_and, and_true, and_self, if_true, if_false, Option.toList_some, Option.toList_none, List.cons_append, List.nil_append, qsL, qlong, List.length_cons, List.length_nil, iN_L, vM1, vM2, exI, iN_add, iN_mul, iN_le, iN_lt, iN_eq, Nat.le_refl, qfN0, qfN1, gM_28, m28, show ¬ A.length ≤ j by omega, bB_t, iN10]
            | false =>
              rw [Bool.false_or]
              by_cases g : B.getD j 0 = imS r y n
              · rw [decide_eq_true g]
                simp (disch := first | assumption | omega) only [e245_0, e245_1, e245_2, e245_3, e245_4, e245_5, e245_6, e245_9, e245_12, e245_13, e245_16, e245_17, e245_18, e245_19, e245_21, e245_23, e245_24, e245_27, e245_30, e245_31, e245_32, e245_35, e245_36, e245_37, e245_39, e245_40, e245_41, e245_42, e245_43, e245_46, e245_47, e245_48, e245_51, e245_53, e245_54, e245_55, e245_58, e245_59, e245_60, e245_61, e245_64, e245_67, e245_68, e245_70, e245_71, e245_75, e245_76, e245_79, e245_82, e245_84, e245_87, e245_88, e245_91, e245_93, e245_94, e245_95, e245_98, e245_99, e245_102, e245_103, e245_105, e245_108, e245_113, e245_114, e245_117, e245_120, e245_121, m245, ↓reduceIte, qg_0, qg_1, qg_2, qg_3, qg_4, qg_5, qg_6, qg_7, qg_8, qg_9, qg_10, qg_11, qg_12, qg_13, not_true_eq_false, not_false_eq_true, Nat.reduceBEq, Bool.false_eq_true, ex1, ex3, ex4, exF, qfit_i, qfit_l, qfit_r, qfit_n, qfit_b0, qfit_b1, qcat_i, qcat_r, qcat_n, qcat_l, qroom_0, qroom_c, List.map_cons, List.map_nil, List.sum_cons, List.sum_nil, Nat.reduceAdd, Nat.reduceMul, Nat.reduceLT, Nat.reduceLeDiff, Nat.reduceEqDiff, Nat.reduceSub, decide_true, true_and, and_true, and_self, if_true, if_false, Option.toList_some, Option.toList_none, List.cons_append, List.nil_append, qsL, qlong, List.length_cons, List.length_nil, iN_L, vM1, vM2, exI, iN_add, iN_mul, iN_le, iN_lt, iN_eq, Nat.le_refl, qfN0, qfN1, gM_28, m28, show ¬ A.length ≤ j by omega, bB_t, bB_f, gM_27, rM_76, b1, g]
              · rw [decide_eq_false g]
                simp (disch := first | assumption | omega) only [e245_0, e245_1, e245_2, e245_3, e245_4, e245_5, e245_6, e245_9, e245_12, e245_13, e245_16, e245_17, e245_18, e245_19, e245_21, e245_23, e245_24, e245_27, e245_30, e245_31, e245_32, e245_35, e245_36, e245_37, e245_39, e245_40, e245_41, e245_42, e245_43, e245_46, e245_47, e245_48, e245_51, e245_53, e245_54, e245_55, e245_58, e245_59, e245_60, e245_61, e245_64, e245_67, e245_68, e245_70, e245_71, e245_75, e245_76, e245_79, e245_82, e245_84, e245_87, e245_88, e245_91, e245_93, e245_94, e245_95, e245_98, e245_99, e245_102, e245_103, e245_105, e245_108, e245_113, e245_114, e245_117, e245_120, e245_121, m245, ↓reduceIte, qg_0, qg_1, qg_2, qg_3, qg_4, qg_5, qg_6, qg_7, qg_8, qg_9, qg_10, qg_11, qg_12, qg_13, not_true_eq_false, not_false_eq_true, Nat.reduceBEq, Bool.false_eq_true, ex1, ex3, ex4, exF, qfit_i, qfit_l, qfit_r, qfit_n, qfit_b0, qfit_b1, qcat_i, qcat_r, qcat_n, qcat_l, qroom_0, qroom_c, List.map_cons, List.map_nil, List.sum_cons, List.sum_nil, Nat.reduceAdd, Nat.reduceMul, Nat.reduceLT, Nat.reduceLeDiff, Nat.reduceEqDiff, Nat.reduceSub, decide_true, true_and, and_true, and_self, if_true, if_false, Option.toList_some, Option.toList_none, List.cons_append, List.nil_append, qsL, qlong, List.length_cons, List.length_nil, iN_L, vM1, vM2, exI, iN_add, iN_mul, iN_le, iN_lt, iN_eq, Nat.le_refl, qfN0, qfN1, gM_28, m28, show ¬ A.length ≤ j by omega, bB_t, bB_f, gM_27, rM_76, b1, g]
          · try dsimp only
            have mem : anyN (fun j => decide (B.getD j 0 = imS r y n)) A.length = decide (imS r y n ∈ B) := by
              rw [← hBl, Bool.eq_iff_iff, anyN_mem, decide_eq_true_eq]
            have eq : imB n A B r (t + 1) = decide (imS r y n ∈ B) := by
              show (imB n A B r t && _) = _
              rw [q, Bool.true_and, ey]
            rw [mem, ← eq, ← ih (t + 1) (some (.int (iN (imS r y n)))) (some (.int (bB (imB n A B r (t + 1))))) (some (.int (iN A.length))) (by omega), e245_73]
            simp (disch := first | assumption | omega) only [e245_0, e245_1, e245_2, e245_3, e245_5, e245_6, e245_9, e245_12, e245_13, e245_16, e245_17, e245_18, e245_19, e245_21, e245_23, e245_24, e245_27, e245_30, e245_31, e245_32, e245_35, e245_36, e245_37, e245_39, e245_40, e245_41, e245_42, e245_43, e245_46, e245_47, e245_48, e245_51, e245_53, e245_54, e245_55, e245_58, e245_59, e245_60, e245_61, e245_64, e245_67, e245_68, e245_70, e245_71, e245_75, e245_76, e245_79, e245_82, e245_84, e245_87, e245_88, e245_91, e245_93, e245_94, e245_95, e245_98, e245_99, e245_102, e245_103, e245_105, e245_108, e245_111, e245_113, e245_114, e245_117, e245_120, e245_121, m245, ↓reduceIte, qg_0, qg_1, qg_2, qg_3, qg_4, qg_5, qg_6, qg_7, qg_8, qg_9, qg_10, qg_11, qg_12, qg_13, not_true_eq_false, not_false_eq_true, Nat.reduceBEq, Bool.false_eq_true, ex1, ex3, ex4, exF, qfit_i, qfit_l, qfit_r, qfit_n, qfit_b0, qfit_b1, qcat_i, qcat_r, qcat_n, qcat_l, qroom_0, qroom_c, List.map_cons, List.map_nil, List.sum_cons, List.sum_nil, Nat.reduceAdd, Nat.reduceMul, Nat.reduceLT, Nat.reduceLeDiff, Nat.reduceEqDiff, Nat.reduceSub, decide_true, true_and, and_true, and_self, if_true, if_false, Option.toList_some, Option.toList_none, List.cons_append, List.nil_append, qsL, qlong, List.length_cons, List.length_nil, iN_L, vM1, vM2, exI, iN_add, iN_mul, iN_le, iN_lt, iN_eq, Nat.le_refl, qfN0, qfN1, gM_28, m28]
  have r0 : qMC (d + 1) 245 [.ref 55] h R ↔ qEv d 3 qk_245 4 [some (.ref 55), some (.int (bB (imB n A B r 0))), some (.int (iN 0)), none, none, none] [] h R := by
    simp (disch := first | assumption | omega) only [e245_0, e245_1, e245_2, e245_3, e245_5, e245_6, e245_9, e245_12, e245_13, e245_16, e245_17, e245_18, e245_19, e245_21, e245_23, e245_24, e245_27, e245_30, e245_31, e245_32, e245_35, e245_36, e245_37, e245_39, e245_40, e245_41, e245_42, e245_43, e245_46, e245_47, e245_48, e245_51, e245_53, e245_54, e245_55, e245_58, e245_59, e245_60, e245_61, e245_64, e245_67, e245_68, e245_70, e245_71, e245_73, e245_75, e245_76, e245_79, e245_82, e245_84, e245_87, e245_88, e245_91, e245_93, e245_94, e245_95, e245_98, e245_99, e245_102, e245_103, e245_105, e245_108, e245_111, e245_113, e245_114, e245_117, e245_120, e245_121, m245, ↓reduceIte, qg_0, qg_1, qg_2, qg_3, qg_4, qg_5, qg_6, qg_7, qg_8, qg_9, qg_10, qg_11, qg_12, qg_13, not_true_eq_false, not_false_eq_true, Nat.reduceBEq, Bool.false_eq_true, ex1, ex3, ex4, exF, qfit_i, qfit_l, qfit_r, qfit_n, qfit_b0, qfit_b1, qcat_i, qcat_r, qcat_n, qcat_l, qroom_0, qroom_c, List.map_cons, List.map_nil, List.sum_cons, List.sum_nil, Nat.reduceAdd, Nat.reduceMul, Nat.reduceLT, Nat.reduceLeDiff, Nat.reduceEqDiff, Nat.reduceSub, decide_true, true_and, and_true, and_self, if_true, if_false, Option.toList_some, Option.toList_none, List.cons_append, List.nil_append, qsL, qlong, List.length_cons, List.length_nil, iN_L, vM1, vM2, exI, iN_add, iN_mul, iN_le, iN_lt, iN_eq, Nat.le_refl, qfN0, qfN1, show imB n A B r 0 = true from rfl, bB_t]
  rw [r0]
  exact key A.length 0 none none none (by omega)
/-- a renaming's threes are alike -/
theorem inj_cnt {m : Nat} {f : Nat → Nat} {p : Nat → Bool} (hf : ∀ s, s < m → f s < m) (hi' : ∀ s t, s < t → t < m → f s ≠ f t) : cntN (fun s => p (f s)) m = cntN p m := by
  have le : ∀ p : Nat → Bool, cntN (fun s => p (f s)) m ≤ cntN p m := by
    intro p
    rw [cntN_fib (U := f) (n := m) fun s hs _ => hf s hs, cntN_sum]
    refine sumN_le fun u hu => ?_
    by_cases q : p u = true
    · rw [if_pos q]
      refine cntN_le1 fun s t h1 h2 h3 => ?_
      have a := of_decide_eq_true (Bool.and_eq_true_iff.mp h3.1).2
      have b := of_decide_eq_true (Bool.and_eq_true_iff.mp h3.2).2
      exact hi' s t h1 h2 (a.trans b.symm)
    · rw [if_neg q, cntN_0]
      · exact Nat.le_refl _
      · intro s hs h3
        have a := Bool.and_eq_true_iff.mp h3
        have b := of_decide_eq_true a.2
        have c : p (f s) = true := a.1
        rw [b] at c
        exact q c
  have tot : ∀ q : Nat → Bool, cntN q m + cntN (fun s => !q s) m = m := by
    intro q
    have : ∀ k, cntN q k + cntN (fun s => !q s) k = k := by
      intro k
      induction k with
      | zero => rfl
      | succ k ih =>
        rw [cntN, cntN]
        cases q k <;> simp <;> omega
    exact this m
  have h1 := le p
  have h2 := le (fun s => !p s)
  have h3 := tot p
  have h4 := tot (fun s => p (f s))
  have h5 : cntN (fun s => (fun s => !p s) (f s)) m = cntN (fun s => !(fun s => p (f s)) s) m := rfl
  omega
theorem imS_sub {f : Nat → Nat} {x y : Nat} (hx : ∀ c, x.testBit c = true → c < n) (hinj : ∀ i j, i < j → j < n → f i ≠ f j) : (imS f y n &&& imS f x n = imS f x n) ↔ (∀ c, x.testBit c = true → y.testBit c = true) := by
  rw [Nat.and_comm, sub_iff]
  constructor
  · intro h c hc
    obtain ⟨c', h1, h2, h3⟩ := imS_bit.mp (h (f c) (imS_bit.mpr ⟨c, hx c hc, hc, rfl⟩))
    have e : c' = c := by
      rcases Nat.lt_trichotomy c' c with w | w | w
      · exact absurd h3 (hinj c' c w (hx c hc))
      · exact w
      · exact absurd h3.symm (hinj c c' w h1)
    rw [← e]; exact h2
  · intro h b hb
    obtain ⟨c, h1, h2, h3⟩ := imS_bit.mp hb
    exact imS_bit.mpr ⟨c, h1, h c h2, h3⟩
theorem imS_inj {f : Nat → Nat} {x y : Nat} (hx : ∀ c, x.testBit c = true → c < n) (hy : ∀ c, y.testBit c = true → c < n) (hinj : ∀ i j, i < j → j < n → f i ≠ f j) (e : imS f x n = imS f y n) : x = y := by
  have h1 := (imS_sub (y := y) hx hinj).mp (by rw [e, Nat.and_self])
  have h2 := (imS_sub (y := x) hy hinj).mp (by rw [e, Nat.and_self])
  exact Nat.eq_of_testBit_eq fun c => by rw [Bool.eq_iff_iff]; exact ⟨h1 c, h2 c⟩
/-- where each set goes, no two to one -/
theorem ren_map {f : Nat → Nat} (hA : ∀ x, x ∈ A → ∀ c, x.testBit c = true → c < n) (nd : A.Nodup) (hf : rnP n A B f) : ∃ φ : Nat → Nat, (∀ s, s < A.length → φ s < B.length ∧ B.getD (φ s) 0 = imS f (A.getD s 0) n) ∧ ∀ s t, s < t → t < A.length → φ s ≠ φ t := by
  have gm : ∀ s, s < A.length → A.getD s 0 ∈ A := fun s hs => by rw [List.getD_eq_getElem?_getD, List.getElem?_eq_getElem hs]; exact List.getElem_mem hs
  have : ∀ s, ∃ t, s < A.length → t < B.length ∧ B.getD t 0 = imS f (A.getD s 0) n := by
    intro s
    by_cases hs : s < A.length
    · obtain ⟨t, ht, e⟩ := List.getElem_of_mem (hf.2 _ (gm s hs))
      exact ⟨t, fun _ => ⟨ht, by rw [List.getD_eq_getElem?_getD, List.getElem?_eq_getElem ht]; exact e⟩⟩
    · exact ⟨0, fun z => absurd z hs⟩
  obtain ⟨φ, hφ⟩ := Classical.axiomOfChoice this
  refine ⟨φ, hφ, fun s t hst ht e => ?_⟩
  have e1 := (hφ s (by omega)).2
  have e2 := (hφ t ht).2
  rw [e] at e1
  have := imS_inj (hA _ (gm s (by omega))) (hA _ (gm t ht)) hf.1 (e1.symm.trans e2)
  rw [List.getD_eq_getElem?_getD, List.getElem?_eq_getElem (show s < A.length by omega), List.getD_eq_getElem?_getD, List.getElem?_eq_getElem ht] at this
  exact absurd this (List.pairwise_iff_getElem.mp nd s t (by omega) ht hst)
theorem tri3_bit {a b c x : Nat} : (tri3 a b c).testBit x = true ↔ x = a ∨ x = b ∨ x = c := by
  unfold tri3
  rw [Nat.testBit_or, Bool.or_eq_true, pair_bit, Nat.testBit_two_pow, decide_eq_true_eq]
  constructor
  · rintro ((h | h) | h)
    · exact Or.inl h
    · exact Or.inr (Or.inl h)
    · exact Or.inr (Or.inr h.symm)
  · rintro (h | h | h)
    · exact Or.inl (Or.inl h)
    · exact Or.inl (Or.inr h)
    · exact Or.inr h.symm
theorem ren_thN {f : Nat → Nat} {a b c : Nat} (hA : ∀ x, x ∈ A → ∀ c, x.testBit c = true → c < n) (nd : A.Nodup) (hBl : B.length = A.length) (hf : rnP n A B f) (ha : a < n) (hb : b < n) (hc : c < n) : thN A a b c A.length = thN B (f a) (f b) (f c) A.length := by
  obtain ⟨φ, h1, h2⟩ := ren_map hA nd hf
  have e1 : thN A a b c A.length = cntN (fun s => (fun t => decide (B.getD t 0 &&& tri3 (f a) (f b) (f c) = tri3 (f a) (f b) (f c))) (φ s)) A.length := by
    unfold thN
    refine cntN_ext fun s hs => ?_
    have e2 : tri3 (f a) (f b) (f c) = imS f (tri3 a b c) n := Nat.eq_of_testBit_eq fun x => by
      rw [Bool.eq_iff_iff, tri3_bit, imS_bit]
      constructor
      · rintro (e | e | e)
        · exact ⟨a, ha, tri3_bit.mpr (Or.inl rfl), e.symm⟩
        · exact ⟨b, hb, tri3_bit.mpr (Or.inr (Or.inl rfl)), e.symm⟩
        · exact ⟨c, hc, tri3_bit.mpr (Or.inr (Or.inr rfl)), e.symm⟩
      · rintro ⟨y, -, hy, e⟩
        rcases tri3_bit.mp hy with rfl | rfl | rfl
        · exact Or.inl e.symm
        · exact Or.inr (Or.inl e.symm)
        · exact Or.inr (Or.inr e.symm)
    dsimp only
    rw [(h1 s hs).2, e2, decide_eq_decide, imS_sub (fun x hx => by rcases tri3_bit.mp hx with e | e | e <;> omega) hf.1, Nat.and_comm, sub_iff]
  rw [e1]
  exact inj_cnt (p := fun t => decide (B.getD t 0 &&& tri3 (f a) (f b) (f c) = tri3 (f a) (f b) (f c))) (fun s hs => by have := (h1 s hs).1; omega) h2
/-- what doesn't go leads to no renaming -/
theorem goB_no {r : Nat → Nat} {c : Nat} (hA : ∀ x, x ∈ A → ∀ c, x.testBit c = true → c < n) (nd : A.Nodup) (hBl : B.length = A.length) (hc : c < n) (hg : goB A B r c = false) : ¬ ∃ f, rnP n A B f ∧ (∀ j, j < n → f j < n) ∧ ∀ j, j < c + 1 → f j = r j := by
  rintro ⟨f, hf, -, he⟩
  have : goB A B r c = true := by
    refine allN_iff.mpr fun a ha => ?_
    unfold goA
    rw [Bool.and_eq_true, Bool.or_eq_true]
    refine ⟨?_, allN_iff.mpr fun b hb => decide_eq_true ?_⟩
    · by_cases e : a = c
      · exact Or.inl (decide_eq_true e)
      · refine Or.inr (decide_eq_true ?_)
        rw [← he a ha, ← he c (by omega)]
        exact hf.1 a c (by omega) hc
    · rw [← he a ha, ← he b (by omega), ← he c (by omega)]
      exact ren_thN hA nd hBl hf (by omega) (by omega) hc
  rw [hg] at this
  cases this
theorem goB_inj {r : Nat → Nat} {c : Nat} (hg : goB A B r c = true) : ∀ a, a < c → r a ≠ r c := by
  intro a ha
  have h1 := allN_iff.mp hg a (by omega)
  unfold goA at h1
  rw [Bool.and_eq_true, Bool.or_eq_true, decide_eq_true_eq, decide_eq_true_eq] at h1
  rcases h1.1 with e | e
  · omega
  · exact e
end GOES

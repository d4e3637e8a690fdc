/-! ===== THE CLASS: least, greatest, floorDiv ===== -/
section XFLOOR
variable {d : Nat} {h : qH} {R : qRes}
set_option maxRecDepth 100000 in
theorem x_minZ {a b : Int} (ha : iB a) (hb : iB b) : qMC (d + 1) 314 [.int (iZ a), .int (iZ b)] h R ↔ R = (some (.int (iZ (if b < a then b else a))), h) := by
  have e1 := iZ_lt hb ha
  have e2 := iZ_le ha hb
  by_cases q : b < a
  · rw [if_pos q]
    simp (disch := first | assumption | omega) only [e314_0, e314_1, e314_2, e314_5, e314_6, e314_9, e314_10, m314, ↓reduceIte, qg_0, qg_1, qg_2, qg_3, qg_4, qg_5, qg_6, qg_7, qg_8, qg_9, qg_10, qg_11, qg_12, qg_13, not_true_eq_false, not_false_eq_true, Nat.reduceBEq, Bool.false_eq_true, ex1, ex3, ex4, exF, qfit_i, qfit_l, qfit_r, qfit_n, qfit_b0, qfit_b1, qcat_i, qcat_r, qcat_n, qcat_l, qroom_0, qroom_c, List.map_cons, List.map_nil, List.sum_cons, List.sum_nil, Nat.reduceAdd, Nat.reduceMul, Nat.reduceLT, Nat.reduceLeDiff, Nat.reduceEqDiff, Nat.reduceSub, decide_true, true_and, and_true, and_self, if_true, if_false, Option.toList_some, Option.toList_none, List.cons_append, List.nil_append, qsL, qlong, List.length_cons, List.length_nil, iN_L, exI, iN_add, iN_mul, iN_le, iN_lt, iN_eq, Nat.le_refl, qfN0, qfN1, uX_16, vX_16, uX_19, vX_19, uX_27, vX_27, uX_30, vX_30, uX_39, vX_39, uX_41, vX_41, uX_43, vX_43, uX_46, vX_46, uX_50, vX_50, uX_53, vX_53, e1, e2, q, show ¬ a ≤ b by omega]
  · rw [if_neg q]
    simp (disch := first | assumption | omega) only [e314_0, e314_1, e314_2, e314_5, e314_6, e314_9, e314_10, m314, ↓reduceIte, qg_0, qg_1, qg_2, qg_3, qg_4, qg_5, qg_6, qg_7, qg_8, qg_9, qg_10, qg_11, qg_12, qg_13, not_true_eq_false, not_false_eq_true, Nat.reduceBEq, Bool.false_eq_true, ex1, ex3, ex4, exF, qfit_i, qfit_l, qfit_r, qfit_n, qfit_b0, qfit_b1, qcat_i, qcat_r, qcat_n, qcat_l, qroom_0, qroom_c, List.map_cons, List.map_nil, List.sum_cons, List.sum_nil, Nat.reduceAdd, Nat.reduceMul, Nat.reduceLT, Nat.reduceLeDiff, Nat.reduceEqDiff, Nat.reduceSub, decide_true, true_and, and_true, and_self, if_true, if_false, Option.toList_some, Option.toList_none, List.cons_append, List.nil_append, qsL, qlong, List.length_cons, List.length_nil, iN_L, exI, iN_add, iN_mul, iN_le, iN_lt, iN_eq, Nat.le_refl, qfN0, qfN1, uX_16, vX_16, uX_19, vX_19, uX_27, vX_27, uX_30, vX_30, uX_39, vX_39, uX_41, vX_41, uX_43, vX_43, uX_46, vX_46, uX_50, vX_50, uX_53, vX_53, e1, e2, q, show a ≤ b by omega]
set_option maxRecDepth 100000 in
theorem x_maxZ {a b : Int} (ha : iB a) (hb : iB b) : qMC (d + 1) 312 [.int (iZ a), .int (iZ b)] h R ↔ R = (some (.int (iZ (if a < b then b else a))), h) := by
  have e1 := iZ_lt ha hb
  have e2 := iZ_le hb ha
  by_cases q : a < b
  · rw [if_pos q]
    simp (disch := first | assumption | omega) only [e312_0, e312_1, e312_2, e312_5, e312_6, e312_9, e312_10, m312, ↓reduceIte, qg_0, qg_1, qg_2, qg_3, qg_4, qg_5, qg_6, qg_7, qg_8, qg_9, qg_10, qg_11, qg_12, qg_13, not_true_eq_false, not_false_eq_true, Nat.reduceBEq, Bool.false_eq_true, ex1, ex3, ex4, exF, qfit_i, qfit_l, qfit_r, qfit_n, qfit_b0, qfit_b1, qcat_i, qcat_r, qcat_n, qcat_l, qroom_0, qroom_c, List.map_cons, List.map_nil, List.sum_cons, List.sum_nil, Nat.reduceAdd, Nat.reduceMul, Nat.reduceLT, Nat.reduceLeDiff, Nat.reduceEqDiff, Nat.reduceSub, decide_true, true_and, and_true, and_self, if_true, if_false, Option.toList_some, Option.toList_none, List.cons_append, List.nil_append, qsL, qlong, List.length_cons, List.length_nil, iN_L, exI, iN_add, iN_mul, iN_le, iN_lt, iN_eq, Nat.le_refl, qfN0, qfN1, uX_16, vX_16, uX_19, vX_19, uX_27, vX_27, uX_30, vX_30, uX_39, vX_39, uX_41, vX_41, uX_43, vX_43, uX_46, vX_46, uX_50, vX_50, uX_53, vX_53, e1, e2, q, show ¬ b ≤ a by omega]
  · rw [if_neg q]
    simp (disch := first | assumption | omega) only [e312_0, e312_1, e312_2, e312_5, e312_6, e312_9, e312_10, m312, ↓reduceIte, qg_0, qg_1, qg_2, qg_3, qg_4, qg_5, qg_6, qg_7, qg_8, qg_9, qg_10, qg_11, qg_12, qg_13, not_true_eq_false, not_false_eq_true, Nat.reduceBEq, Bool.false_eq_true, ex1, ex3, ex4, exF, qfit_i, qfit_l, qfit_r, qfit_n, qfit_b0, qfit_b1, qcat_i, qcat_r, qcat_n, qcat_l, qroom_0, qroom_c, List.map_cons, List.map_nil, List.sum_cons, List.sum_nil, Nat.reduceAdd, Nat.reduceMul, Nat.reduceLT, Nat.reduceLeDiff, Nat.reduceEqDiff, Nat.reduceSub, decide_true, true_and, and_true, and_self, if_true, if_false, Option.toList_some, Option.toList_none, List.cons_append, List.nil_append, qsL, qlong, List.length_cons, List.length_nil, iN_L, exI, iN_add, iN_mul, iN_le, iN_lt, iN_eq, Nat.le_refl, qfN0, qfN1, uX_16, vX_16, uX_19, vX_19, uX_27, vX_27, uX_30, vX_30, uX_39, vX_39, uX_41, vX_41, uX_43, vX_43, uX_46, vX_46, uX_50, vX_50, uX_53, vX_53, e1, e2, q, show b ≤ a by omega]
set_option maxRecDepth 100000 in
theorem x_minL {a b : Int} (ha : lB a) (hb : lB b) : qMC (d + 1) 315 [.long (lZ a), .long (lZ b)] h R ↔ R = (some (.long (lZ (if b < a then b else a))), h) := by
  have e1 := lZ_lt hb ha
  have e2 := lZ_le ha hb
  by_cases q : b < a
  · rw [if_pos q]
    simp (disch := first | assumption | omega) only [e315_0, e315_1, e315_2, e315_3, e315_6, e315_7, e315_10, e315_11, m315, ↓reduceIte, qg_0, qg_1, qg_2, qg_3, qg_4, qg_5, qg_6, qg_7, qg_8, qg_9, qg_10, qg_11, qg_12, qg_13, not_true_eq_false, not_false_eq_true, Nat.reduceBEq, Bool.false_eq_true, ex1, ex3, ex4, exF, qfit_i, qfit_l, qfit_r, qfit_n, qfit_b0, qfit_b1, qcat_i, qcat_r, qcat_n, qcat_l, qroom_0, qroom_c, List.map_cons, List.map_nil, List.sum_cons, List.sum_nil, Nat.reduceAdd, Nat.reduceMul, Nat.reduceLT, Nat.reduceLeDiff, Nat.reduceEqDiff, Nat.reduceSub, decide_true, true_and, and_true, and_self, if_true, if_false, Option.toList_some, Option.toList_none, List.cons_append, List.nil_append, qsL, qlong, List.length_cons, List.length_nil, iN_L, exI, iN_add, iN_mul, iN_le, iN_lt, iN_eq, Nat.le_refl, qfN0, qfN1, uX_16, vX_16, uX_19, vX_19, uX_27, vX_27, uX_30, vX_30, uX_39, vX_39, uX_41, vX_41, uX_43, vX_43, uX_46, vX_46, uX_50, vX_50, uX_53, vX_53, lgN_gt, lgN_le, e1, e2, q, show ¬ a ≤ b by omega]
  · rw [if_neg q]
    simp (disch := first | assumption | omega) only [e315_0, e315_1, e315_2, e315_3, e315_6, e315_7, e315_10, e315_11, m315, ↓reduceIte, qg_0, qg_1, qg_2, qg_3, qg_4, qg_5, qg_6, qg_7, qg_8, qg_9, qg_10, qg_11, qg_12, qg_13, not_true_eq_false, not_false_eq_true, Nat.reduceBEq, Bool.false_eq_true, ex1, ex3, ex4, exF, qfit_i, qfit_l, qfit_r, qfit_n, qfit_b0, qfit_b1, qcat_i, qcat_r, qcat_n, qcat_l, qroom_0, qroom_c, List.map_cons, List.map_nil, List.sum_cons, List.sum_nil, Nat.reduceAdd, Nat.reduceMul, Nat.reduceLT, Nat.reduceLeDiff, Nat.reduceEqDiff, Nat.reduceSub, decide_true, true_and, and_true, and_self, if_true, if_false, Option.toList_some, Option.toList_none, List.cons_append, List.nil_append, qsL, qlong, List.length_cons, List.length_nil, iN_L, exI, iN_add, iN_mul, iN_le, iN_lt, iN_eq, Nat.le_refl, qfN0, qfN1, uX_16, vX_16, uX_19, vX_19, uX_27, vX_27, uX_30, vX_30, uX_39, vX_39, uX_41, vX_41, uX_43, vX_43, uX_46, vX_46, uX_50, vX_50, uX_53, vX_53, lgN_gt, lgN_le, e1, e2, q, show a ≤ b by omega]
set_option maxRecDepth 100000 in
theorem x_maxL {a b : Int} (ha : lB a) (hb : lB b) : qMC (d + 1) 313 [.long (lZ a), .long (lZ b)] h R ↔ R = (some (.long (lZ (if a < b then b else a))), h) := by
  have e1 := lZ_lt ha hb
  have e2 := lZ_le hb ha
  by_cases q : a < b
  · rw [if_pos q]
    simp (disch := first | assumption | omega) only [e313_0, e313_1, e313_2, e313_3, e313_6, e313_7, e313_10, e313_11, m313, ↓reduceIte, qg_0, qg_1, qg_2, qg_3, qg_4, qg_5, qg_6, qg_7, qg_8, qg_9, qg_10, qg_11, qg_12, qg_13, not_true_eq_false, not_false_eq_true, Nat.reduceBEq, Bool.false_eq_true, ex1, ex3, ex4, exF, qfit_i, qfit_l, qfit_r, qfit_n, qfit_b0, qfit_b1, qcat_i, qcat_r, qcat_n, qcat_l, qroom_0, qroom_c, List.map_cons, List.map_nil, List.sum_cons, List.sum_nil, Nat.reduceAdd, Nat.reduceMul, Nat.reduceLT, Nat.reduceLeDiff, Nat.reduceEqDiff, Nat.reduceSub, decide_true, true_and, and_true, and_self, if_true, if_false, Option.toList_some, Option.toList_none, List.cons_append, List.nil_append, qsL, qlong, List.length_cons, List.length_nil, iN_L, exI, iN_add, iN_mul, iN_le, iN_lt, iN_eq, Nat.le_refl, qfN0, qfN1, uX_16, vX_16, uX_19, vX_19, uX_27, vX_27, uX_30, vX_30, uX_39, vX_39, uX_41, vX_41, uX_43, vX_43, uX_46, vX_46, uX_50, vX_50, uX_53, vX_53, lgN_lt, lgN_ge, e1, e2, q, show ¬ b ≤ a by omega]
  · rw [if_neg q]
    simp (disch := first | assumption | omega) only [e313_0, e313_1, e313_2, e313_3, e313_6, e313_7, e313_10, e313_11, m313, ↓reduceIte, qg_0, qg_1, qg_2, qg_3, qg_4, qg_5, qg_6, qg_7, qg_8, qg_9, qg_10, qg_11, qg_12, qg_13, not_true_eq_false, not_false_eq_true, Nat.reduceBEq, Bool.false_eq_true, ex1, ex3, ex4, exF, qfit_i, qfit_l, qfit_r, qfit_n, qfit_b0, qfit_b1, qcat_i, qcat_r, qcat_n, qcat_l, qroom_0, qroom_c, List.map_cons, List.map_nil, List.sum_cons, List.sum_nil, Nat.reduceAdd, Nat.reduceMul, Nat.reduceLT, Nat.reduceLeDiff, Nat.reduceEqDiff, Nat.reduceSub, decide_true, true_and, and_true, and_self, if_true, if_false, Option.toList_some, Option.toList_none, List.cons_append, List.nil_append, qsL, qlong, List.length_cons, List.length_nil, iN_L, exI, iN_add, iN_mul, iN_le, iN_lt, iN_eq, Nat.le_refl, qfN0, qfN1, uX_16, vX_16, uX_19, vX_19, uX_27, vX_27, uX_30, vX_30, uX_39, vX_39, uX_41, vX_41, uX_43, vX_43, uX_46, vX_46, uX_50, vX_50, uX_53, vX_53, lgN_lt, lgN_ge, e1, e2, q, show b ≤ a by omega]
theorem xor_sgn {a b : Int} (ha : lB a) (hb : lB b) (hb0 : 0 < b) : lZ 0 ≤ lZ a ^^^ lZ b ↔ 0 ≤ a := by
  have sg : ∀ x : Int64, (lZ 0 ≤ x ↔ x.toBitVec.msb = false) := fun x => by
    rw [Int64.le_iff_toInt_le, lZ_int lB_0, BitVec.msb_eq_toInt]
    constructor
    · intro z; exact decide_eq_false (by have : x.toBitVec.toInt = x.toInt := rfl; omega)
    · intro z; have := of_decide_eq_false z; have e : x.toBitVec.toInt = x.toInt := rfl; omega
  have m : ∀ z : Int, lB z → ((lZ z).toBitVec.msb = false ↔ 0 ≤ z) := fun z hz => by rw [← sg, lZ_le lB_0 hz]
  rw [sg, Int64.toBitVec_xor, BitVec.msb_xor]
  have hm := (m b hb).mpr (by omega)
  rw [hm, Bool.xor_false]
  exact m a ha
set_option maxRecDepth 100000 in
theorem x_floorDiv {a b : Int} (ha : lB a) (hb : lB b) (hb0 : 0 < b) : qMC (d + 1) 309 [.long (lZ a), .long (lZ b)] h R ↔ R = (some (.long (lZ (a / b))), h) := by
  have b0 : ¬ lZ b = lZ 0 := by rw [lZ_eq hb lB_0]; omega
  have dv := lZ_div ha hb
  have sg := xor_sgn ha hb hb0
  have ml := lZ_mul (a.tdiv b) b
  have td : (a.tdiv b) * b + a.tmod b = a := by rw [Int.mul_comm]; exact Int.mul_tdiv_add_tmod a b
  have ed : b * (a / b) + a % b = a := Int.mul_ediv_add_emod a b
  have em0 := Int.emod_nonneg a (show b ≠ 0 by omega)
  have em1 := Int.emod_lt_of_pos a hb0
  by_cases z : 0 ≤ a
  · have e : a.tdiv b = a / b := Int.tdiv_eq_ediv_of_nonneg z
    rw [← e]
    simp (disch := first | assumption | omega) only [e309_0, e309_1, e309_2, e309_3, e309_5, e309_6, e309_7, e309_8, e309_9, e309_10, e309_13, e309_15, e309_16, e309_17, e309_18, e309_19, e309_22, e309_24, e309_25, e309_26, e309_27, e309_29, m309, ↓reduceIte, qg_0, qg_1, qg_2, qg_3, qg_4, qg_5, qg_6, qg_7, qg_8, qg_9, qg_10, qg_11, qg_12, qg_13, not_true_eq_false, not_false_eq_true, Nat.reduceBEq, Bool.false_eq_true, ex1, ex3, ex4, exF, qfit_i, qfit_l, qfit_r, qfit_n, qfit_b0, qfit_b1, qcat_i, qcat_r, qcat_n, qcat_l, qroom_0, qroom_c, List.map_cons, List.map_nil, List.sum_cons, List.sum_nil, Nat.reduceAdd, Nat.reduceMul, Nat.reduceLT, Nat.reduceLeDiff, Nat.reduceEqDiff, Nat.reduceSub, decide_true, true_and, and_true, and_self, if_true, if_false, Option.toList_some, Option.toList_none, List.cons_append, List.nil_append, qsL, qlong, List.length_cons, List.length_nil, iN_L, exI, iN_add, iN_mul, iN_le, iN_lt, iN_eq, Nat.le_refl, qfN0, qfN1, uX_16, vX_16, uX_19, vX_19, uX_27, vX_27, uX_30, vX_30, uX_39, vX_39, uX_41, vX_41, uX_43, vX_43, uX_46, vX_46, uX_50, vX_50, uX_53, vX_53, lgN_ge, lgN_lt, b0, dv, ml, show (0 : Int64) = lZ 0 from rfl, sg, z]
  · by_cases q : a.tdiv b * b = a
    · have e : a.tdiv b = a / b := by
        have : a = b * a.tdiv b := by rw [Int.mul_comm]; exact q.symm
        rw [this, Int.mul_tdiv_cancel_left _ (by omega), Int.mul_ediv_cancel_left _ (by omega)]
      rw [← e]
      simp (disch := first | assumption | omega) only [e309_0, e309_1, e309_2, e309_3, e309_5, e309_6, e309_7, e309_8, e309_9, e309_10, e309_13, e309_15, e309_16, e309_17, e309_18, e309_19, e309_22, e309_24, e309_25, e309_26, e309_27, e309_29, m309, ↓reduceIte, qg_0, qg_1, qg_2, qg_3, qg_4, qg_5, qg_6, qg_7, qg_8, qg_9, qg_10, qg_11, qg_12, qg_13, not_true_eq_false, not_false_eq_true, Nat.reduceBEq, Bool.false_eq_true, ex1, ex3, ex4, exF, qfit_i, qfit_l, qfit_r, qfit_n, qfit_b0, qfit_b1, qcat_i, qcat_r, qcat_n, qcat_l, qroom_0, qroom_c, List.map_cons, List.map_nil, List.sum_cons, List.sum_nil, Nat.reduceAdd, Nat.reduceMul, Nat.reduceLT, Nat.reduceLeDiff, Nat.reduceEqDiff, Nat.reduceSub, decide_true, true_and, and_true, and_self, if_true, if_false, Option.toList_some, Option.toList_none, List.cons_append, List.nil_append, qsL, qlong, List.length_cons, List.length_nil, iN_L, exI, iN_add, iN_mul, iN_le, iN_lt, iN_eq, Nat.le_refl, qfN0, qfN1, uX_16, vX_16, uX_19, vX_19, uX_27, vX_27, uX_30, vX_30, uX_39, vX_39, uX_41, vX_41, uX_43, vX_43, uX_46, vX_46, uX_50, vX_50, uX_53, vX_53, lgN_ge, lgN_lt, lgN_eq, b0, dv, ml, show (0 : Int64) = lZ 0 from rfl, sg, z, q]
    · have e : a.tdiv b - 1 = a / b := by
        have t1 := Int.tdiv_eq_ediv (a := a) (b := b)
        rw [if_neg (fun y => by
          rcases y with y | y
          · exact z y
          · exact q (Int.tdiv_mul_cancel y)), Int.sign_eq_one_of_pos hb0] at t1
        omega
      have e3 : a.tdiv b * b = a - a % b + b := by
        rw [show a.tdiv b = a / b + 1 by omega, Int.add_mul, Int.mul_comm (a / b) b, Int.one_mul]; omega
      have lb : lB (a.tdiv b * b) := by
        rw [e3]
        obtain ⟨h1, h2⟩ := ha
        obtain ⟨h3, h4⟩ := hb
        exact ⟨by omega, by omega⟩
      have eq := lZ_eq lb ha
      have s1 := lZ_sub (a.tdiv b) 1
      rw [← e]
      simp (disch := first | assumption | omega) only [e309_0, e309_1, e309_2, e309_3, e309_5, e309_6, e309_7, e309_8, e309_9, e309_10, e309_13, e309_15, e309_16, e309_17, e309_18, e309_19, e309_22, e309_24, e309_25, e309_26, e309_27, e309_29, m309, ↓reduceIte, qg_0, qg_1, qg_2, qg_3, qg_4, qg_5, qg_6, qg_7, qg_8, qg_9, qg_10, qg_11, qg_12, qg_13, not_true_eq_false, not_false_eq_true, Nat.reduceBEq, Bool.false_eq_true, ex1, ex3, ex4, exF, qfit_i, qfit_l, qfit_r, qfit_n, qfit_b0, qfit_b1, qcat_i, qcat_r, qcat_n, qcat_l, qroom_0, qroom_c, List.map_cons, List.map_nil, List.sum_cons, List.sum_nil, Nat.reduceAdd, Nat.reduceMul, Nat.reduceLT, Nat.reduceLeDiff, Nat.reduceEqDiff, Nat.reduceSub, decide_true, true_and, and_true, and_self, if_true, if_false, Option.toList_some, Option.toList_none, List.cons_append, List.nil_append, qsL, qlong, List.length_cons, List.length_nil, iN_L, exI, iN_add, iN_mul, iN_le, iN_lt, iN_eq, Nat.le_refl, qfN0, qfN1, uX_16, vX_16, uX_19, vX_19, uX_27, vX_27, uX_30, vX_30, uX_39, vX_39, uX_41, vX_41, uX_43, vX_43, uX_46, vX_46, uX_50, vX_50, uX_53, vX_53, lgN_ge, lgN_lt, b0, dv, ml, show (0 : Int64) = lZ 0 from rfl, show (1 : Int64) = lZ 1 from rfl, sg, z, lgN_eq, eq, q, s1]
end XFLOOR

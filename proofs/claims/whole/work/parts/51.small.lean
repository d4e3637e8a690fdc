/-! ===== THE REFERENCE: its small methods ===== -/
/-- how many of the first k places of x are 1 -/
def bitsOf (x : Int32) : Nat → Int32
  | 0 => 0
  | k + 1 => bitsOf x k + (x >>> (iN k &&& 31) &&& 1)
set_option maxRecDepth 100000 in
set_option maxHeartbeats 8000000 in
theorem s_bits {d : Nat} {x : Int32} {h : qH} {R : qRes} : qMC (d + 1) 192 [.int x] h R ↔ R = (some (.int (bitsOf x 24)), h) := by
  simp only [e192_0, e192_1, e192_2, e192_3, e192_5, e192_7, e192_10, e192_11, e192_12, e192_13, e192_14, e192_15, e192_16, e192_17, e192_18, e192_21, e192_24, e192_25, m192, ↓reduceIte, qg_0, qg_1, qg_2, qg_3, qg_4, qg_5, qg_6, qg_7, qg_8, qg_9, qg_10, qg_11, qg_12, qg_13, not_true_eq_false, not_false_eq_true, Nat.reduceBEq, Bool.false_eq_true, ex1, ex3, ex4, exF, qfit_i, qfit_l, qfit_r, qfit_n, qfit_b0, qfit_b1, qcat_i, qcat_r, qcat_n, qcat_l, qroom_0, qroom_c, List.map_cons, List.map_nil, List.sum_cons, List.sum_nil, Nat.reduceAdd, Nat.reduceMul, Nat.reduceLT, Nat.reduceLeDiff, Nat.reduceEqDiff, Nat.reduceSub, decide_true, true_and, and_true, and_self, if_true, if_false, Option.toList_some, Option.toList_none, List.cons_append, List.nil_append, qsL, qlong, List.length_cons, List.length_nil]
  refine Iff.trans (loop_up (n := 24) (L := fun k => [some (.int x), some (.int (bitsOf x k)), some (.int (iN k))]) (H := fun _ => h) ?_) ?_
  · intro k hk
    try dsimp only
    rw [e192_4]
    simp (disch := first | assumption | omega) only [e192_0, e192_1, e192_2, e192_3, e192_5, e192_7, e192_10, e192_11, e192_12, e192_13, e192_14, e192_15, e192_16, e192_17, e192_18, e192_21, e192_24, e192_25, m192, ↓reduceIte, qg_0, qg_1, qg_2, qg_3, qg_4, qg_5, qg_6, qg_7, qg_8, qg_9, qg_10, qg_11, qg_12, qg_13, not_true_eq_false, not_false_eq_true, Nat.reduceBEq, Bool.false_eq_true, ex1, ex3, ex4, exF, qfit_i, qfit_l, qfit_r, qfit_n, qfit_b0, qfit_b1, qcat_i, qcat_r, qcat_n, qcat_l, qroom_0, qroom_c, List.map_cons, List.map_nil, List.sum_cons, List.sum_nil, Nat.reduceAdd, Nat.reduceMul, Nat.reduceLT, Nat.reduceLeDiff, Nat.reduceEqDiff, Nat.reduceSub, decide_true, true_and, and_true, and_self, if_true, if_false, Option.toList_some, Option.toList_none, List.cons_append, List.nil_append, qsL, qlong, List.length_cons, List.length_nil, exI, iN_Lle, Nat.not_le.mpr hk, iN_addL, bitsOf]
  · try dsimp only
    rw [e192_4]
    simp (disch := first | assumption | omega) only [e192_0, e192_1, e192_2, e192_3, e192_5, e192_7, e192_10, e192_11, e192_12, e192_13, e192_14, e192_15, e192_16, e192_17, e192_18, e192_21, e192_24, e192_25, m192, ↓reduceIte, qg_0, qg_1, qg_2, qg_3, qg_4, qg_5, qg_6, qg_7, qg_8, qg_9, qg_10, qg_11, qg_12, qg_13, not_true_eq_false, not_false_eq_true, Nat.reduceBEq, Bool.false_eq_true, ex1, ex3, ex4, exF, qfit_i, qfit_l, qfit_r, qfit_n, qfit_b0, qfit_b1, qcat_i, qcat_r, qcat_n, qcat_l, qroom_0, qroom_c, List.map_cons, List.map_nil, List.sum_cons, List.sum_nil, Nat.reduceAdd, Nat.reduceMul, Nat.reduceLT, Nat.reduceLeDiff, Nat.reduceEqDiff, Nat.reduceSub, decide_true, true_and, and_true, and_self, if_true, if_false, Option.toList_some, Option.toList_none, List.cons_append, List.nil_append, qsL, qlong, List.length_cons, List.length_nil, iN_Lle]
theorem nb_body {i : Int32} {nb : Nat} (hn : nb < 2147483648) : ((0 : Int64) ≤ i.toInt64 ∧ i.toInt64 ≤ (iN nb - 1).toInt64) ↔ (0 ≤ i ∧ i < iN nb) := by
  rw [show (0 : Int64) = (0 : Int32).toInt64 from rfl, i64_le, i64_le]
  refine and_congr_right fun h0 => ?_
  obtain ⟨k, hk, rfl⟩ := iN_of h0
  rw [iN_lt hk hn, Int32.le_iff_toInt_le, iN_int hk]
  by_cases hz : nb = 0
  · subst hz
    rw [show (iN 0 - 1).toInt = -1 from rfl]; omega
  · rw [show iN nb - 1 = iN (nb - 1) from iN_subL (by show 1 ≤ nb; omega), iN_int (by omega)]; omega
theorem bI_congr {p q : Prop} [Decidable p] [Decidable q] (h : p ↔ q) : bI p = bI q := by unfold bI; by_cases hp : p
                                                                                          · rw [if_pos hp, if_pos (h.mp hp)]
                                                                                          · rw [if_neg hp, if_neg (fun z => hp (h.mpr z))]
theorem bI_01 (p : Prop) [Decidable p] : qfit 3 (.int (bI p)) = true := by
  unfold bI; by_cases hp : p
  · rw [if_pos hp]; rfl
  · rw [if_neg hp]; rfl
set_option maxRecDepth 100000 in
set_option maxHeartbeats 8000000 in
theorem s_isBody {d nb : Nat} {i : Int32} {h : qH} {R : qRes} (s : ShM h) (hb : mi h 0 = iN nb) (hn : nb < 2147483648) : qMC (d + 2) 193 [.ref 55, .int i] h R ↔ R = (some (.int (bI (0 ≤ i ∧ i < iN nb))), h) := by
  simp (disch := first | assumption | omega) only [e193_0, e193_1, e193_2, e193_3, e193_4, e193_7, e193_8, e193_9, e193_10, e193_13, m193, ↓reduceIte, qg_0, qg_1, qg_2, qg_3, qg_4, qg_5, qg_6, qg_7, qg_8, qg_9, qg_10, qg_11, qg_12, qg_13, not_true_eq_false, not_false_eq_true, Nat.reduceBEq, Bool.false_eq_true, ex1, ex3, ex4, exF, qfit_i, qfit_l, qfit_r, qfit_n, qfit_b0, qfit_b1, qcat_i, qcat_r, qcat_n, qcat_l, qroom_0, qroom_c, List.map_cons, List.map_nil, List.sum_cons, List.sum_nil, Nat.reduceAdd, Nat.reduceMul, Nat.reduceLT, Nat.reduceLeDiff, Nat.reduceEqDiff, Nat.reduceSub, decide_true, true_and, and_true, and_self, if_true, if_false, Option.toList_some, Option.toList_none, List.cons_append, List.nil_append, qsL, qlong, List.length_cons, List.length_nil, gM_0, s_in, hb, bI_01]
  rw [bI_congr (nb_body hn)]
set_option maxRecDepth 100000 in
set_option maxHeartbeats 8000000 in
theorem s_x {d i c k : Nat} {h : qH} {R : qRes} (s : ShM h) (hi' : 64 * i + 4 * c + k < 1536) : qMC (d + 1) 194 [.ref 55, .int (iN i), .int (iN c), .int (iN k)] h R ↔ R = (some (.int (hi h 59 (64 * i + 4 * c + k))), h) := by
  simp (disch := first | assumption | omega) only [e194_0, e194_1, e194_4, e194_6, e194_7, e194_8, e194_9, e194_10, e194_11, e194_12, e194_13, e194_14, e194_15, m194, ↓reduceIte, qg_0, qg_1, qg_2, qg_3, qg_4, qg_5, qg_6, qg_7, qg_8, qg_9, qg_10, qg_11, qg_12, qg_13, not_true_eq_false, not_false_eq_true, Nat.reduceBEq, Bool.false_eq_true, ex1, ex3, ex4, exF, qfit_i, qfit_l, qfit_r, qfit_n, qfit_b0, qfit_b1, qcat_i, qcat_r, qcat_n, qcat_l, qroom_0, qroom_c, List.map_cons, List.map_nil, List.sum_cons, List.sum_nil, Nat.reduceAdd, Nat.reduceMul, Nat.reduceLT, Nat.reduceLeDiff, Nat.reduceEqDiff, Nat.reduceSub, decide_true, true_and, and_true, and_self, if_true, if_false, Option.toList_some, Option.toList_none, List.cons_append, List.nil_append, qsL, qlong, List.length_cons, List.length_nil, gM_4, iN_Lmul, iN_add, rM_59]
set_option maxRecDepth 100000 in
set_option maxHeartbeats 8000000 in
theorem s_many {d i k : Nat} {h : qH} {R : qRes} (s : ShM h) (hi' : i < 24) (hk : k < 4) : qMC (d + 1) 195 [.ref 55, .int (iN i), .int (iN k)] h R ↔ R = (some (.int (if iN k < hi h 56 i then hi h 60 (4 * i + k) else 0)), h) := by
  simp (disch := first | assumption | omega) only [e195_0, e195_1, e195_2, e195_5, e195_6, e195_7, e195_10, e195_11, e195_14, e195_15, e195_16, e195_17, e195_18, e195_19, e195_20, e195_23, e195_24, m195, ↓reduceIte, qg_0, qg_1, qg_2, qg_3, qg_4, qg_5, qg_6, qg_7, qg_8, qg_9, qg_10, qg_11, qg_12, qg_13, not_true_eq_false, not_false_eq_true, Nat.reduceBEq, Bool.false_eq_true, ex1, ex3, ex4, exF, qfit_i, qfit_l, qfit_r, qfit_n, qfit_b0, qfit_b1, qcat_i, qcat_r, qcat_n, qcat_l, qroom_0, qroom_c, List.map_cons, List.map_nil, List.sum_cons, List.sum_nil, Nat.reduceAdd, Nat.reduceMul, Nat.reduceLT, Nat.reduceLeDiff, Nat.reduceEqDiff, Nat.reduceSub, decide_true, true_and, and_true, and_self, if_true, if_false, Option.toList_some, Option.toList_none, List.cons_append, List.nil_append, qsL, qlong, List.length_cons, List.length_nil, gM_1, gM_5, iN_Lmul, iN_add, rM_56, rM_60]
  by_cases hc : iN k < hi h 56 i
  · simp only [hc, Int32.not_le.mpr hc, if_true, if_false]
  · simp only [hc, Int32.not_lt.mp hc, if_true, if_false]
set_option maxRecDepth 100000 in
set_option maxHeartbeats 8000000 in
theorem s_setOf {d i k j : Nat} {h : qH} {R : qRes} (s : ShM h) (hi' : 208 * (4 * i + k) + j < 19968) : qMC (d + 1) 196 [.ref 55, .int (iN i), .int (iN k), .int (iN j)] h R ↔ R = (some (.int (hi h 61 (208 * (4 * i + k) + j))), h) := by
  simp (disch := first | assumption | omega) only [e196_0, e196_1, e196_4, e196_7, e196_8, e196_9, e196_10, e196_11, e196_12, e196_13, e196_14, e196_15, e196_16, m196, ↓reduceIte, qg_0, qg_1, qg_2, qg_3, qg_4, qg_5, qg_6, qg_7, qg_8, qg_9, qg_10, qg_11, qg_12, qg_13, not_true_eq_false, not_false_eq_true, Nat.reduceBEq, Bool.false_eq_true, ex1, ex3, ex4, exF, qfit_i, qfit_l, qfit_r, qfit_n, qfit_b0, qfit_b1, qcat_i, qcat_r, qcat_n, qcat_l, qroom_0, qroom_c, List.map_cons, List.map_nil, List.sum_cons, List.sum_nil, Nat.reduceAdd, Nat.reduceMul, Nat.reduceLT, Nat.reduceLeDiff, Nat.reduceEqDiff, Nat.reduceSub, decide_true, true_and, and_true, and_self, if_true, if_false, Option.toList_some, Option.toList_none, List.cons_append, List.nil_append, qsL, qlong, List.length_cons, List.length_nil, gM_6, iN_Lmul, iN_add, rM_61]
set_option maxRecDepth 100000 in
set_option maxHeartbeats 8000000 in
theorem s_facets {d i D : Nat} {h : qH} {R : qRes} (s : ShM h) (hi' : i < 24) (hD : hi h 56 i = iN D) (h1 : 1 ≤ D) (h4 : D ≤ 4) : qMC (d + 2) 197 [.ref 55, .int (iN i)] h R ↔ R = (some (.int (hi h 60 (4 * i + (D - 1)))), h) := by
  simp (disch := first | assumption | omega) only [e197_0, e197_1, e197_2, e197_3, e197_6, e197_7, e197_8, e197_9, e197_10, e197_13, m197, ↓reduceIte, qg_0, qg_1, qg_2, qg_3, qg_4, qg_5, qg_6, qg_7, qg_8, qg_9, qg_10, qg_11, qg_12, qg_13, not_true_eq_false, not_false_eq_true, Nat.reduceBEq, Bool.false_eq_true, ex1, ex3, ex4, exF, qfit_i, qfit_l, qfit_r, qfit_n, qfit_b0, qfit_b1, qcat_i, qcat_r, qcat_n, qcat_l, qroom_0, qroom_c, List.map_cons, List.map_nil, List.sum_cons, List.sum_nil, Nat.reduceAdd, Nat.reduceMul, Nat.reduceLT, Nat.reduceLeDiff, Nat.reduceEqDiff, Nat.reduceSub, decide_true, true_and, and_true, and_self, if_true, if_false, Option.toList_some, Option.toList_none, List.cons_append, List.nil_append, qsL, qlong, List.length_cons, List.length_nil, gM_1, rM_56, hD, iN_subL, vM1, vM2, s_many, iN_lt, show D - 1 < D by omega]
set_option maxRecDepth 100000 in
set_option maxHeartbeats 8000000 in
theorem s_facet {d i j D : Nat} {h : qH} {R : qRes} (s : ShM h) (hi' : i < 24) (hD : hi h 56 i = iN D) (h1 : 1 ≤ D) (h4 : D ≤ 4) (hj : 208 * (4 * i + (D - 1)) + j < 19968) : qMC (d + 2) 198 [.ref 55, .int (iN i), .int (iN j)] h R ↔ R = (some (.int (hi h 61 (208 * (4 * i + (D - 1)) + j))), h) := by
  simp (disch := first | assumption | omega) only [e198_0, e198_1, e198_2, e198_3, e198_6, e198_7, e198_8, e198_9, e198_10, e198_11, e198_14, m198, ↓reduceIte, qg_0, qg_1, qg_2, qg_3, qg_4, qg_5, qg_6, qg_7, qg_8, qg_9, qg_10, qg_11, qg_12, qg_13, not_true_eq_false, not_false_eq_true, Nat.reduceBEq, Bool.false_eq_true, ex1, ex3, ex4, exF, qfit_i, qfit_l, qfit_r, qfit_n, qfit_b0, qfit_b1, qcat_i, qcat_r, qcat_n, qcat_l, qroom_0, qroom_c, List.map_cons, List.map_nil, List.sum_cons, List.sum_nil, Nat.reduceAdd, Nat.reduceMul, Nat.reduceLT, Nat.reduceLeDiff, Nat.reduceEqDiff, Nat.reduceSub, decide_true, true_and, and_true, and_self, if_true, if_false, Option.toList_some, Option.toList_none, List.cons_append, List.nil_append, qsL, qlong, List.length_cons, List.length_nil, gM_1, rM_56, hD, iN_subL, vM1, vM2, s_setOf]
set_option maxRecDepth 100000 in
set_option maxHeartbeats 8000000 in
theorem s_begin {d : Nat} {x : Int32} {h : qH} {R : qRes} (s : ShM h) : qMC (d + 1) 199 [.ref 55, .int x] h R ↔ R = (none, mI (mI h 8 x) 9 0) := by
  have s1 : ShM (mI h 8 x) := s.setI (by decide)
  simp (disch := first | assumption | omega) only [e199_0, e199_1, e199_2, e199_5, e199_6, e199_7, e199_10, m199, ↓reduceIte, qg_0, qg_1, qg_2, qg_3, qg_4, qg_5, qg_6, qg_7, qg_8, qg_9, qg_10, qg_11, qg_12, qg_13, not_true_eq_false, not_false_eq_true, Nat.reduceBEq, Bool.false_eq_true, ex1, ex3, ex4, exF, qfit_i, qfit_l, qfit_r, qfit_n, qfit_b0, qfit_b1, qcat_i, qcat_r, qcat_n, qcat_l, qroom_0, qroom_c, List.map_cons, List.map_nil, List.sum_cons, List.sum_nil, Nat.reduceAdd, Nat.reduceMul, Nat.reduceLT, Nat.reduceLeDiff, Nat.reduceEqDiff, Nat.reduceSub, decide_true, true_and, and_true, and_self, if_true, if_false, Option.toList_some, Option.toList_none, List.cons_append, List.nil_append, qsL, qlong, List.length_cons, List.length_nil, pM_8, pM_9]

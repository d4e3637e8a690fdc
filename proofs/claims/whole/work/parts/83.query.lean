/-! ===== THE REFERENCE: what is asked of bodies ===== -/
section QUERY
variable {d : Nat} {h : qH} {bs : List bdy} {R : qRes}
noncomputable def cel (bs : List bdy) (i K : Nat) : List Nat := cls (bs.getD i b0).1 (bs.getD i b0).2.1 K
theorem BsM.cells {i : Nat} (B : BsM h bs) (hi' : i < bs.length) : CellV h i (cel bs i) := (B.2.2 i hi').2.2.cells (B.2.2 i hi').1
theorem cls_none {l : List pt4} {D K : Nat} (hD : 2 ≤ D) (hK : D ≤ K) : cls l D K = [] := by
  refine List.eq_nil_iff_forall_not_mem.mpr fun x hx => ?_
  have := (pickN_mem.mp hx).2
  rcases tB_iff.mp this with h | h
  · omega
  · omega
theorem cel_none {i K : Nat} (B : BsM h bs) (hi' : i < bs.length) (hK : dmn bs i ≤ K) : cel bs i K = [] := cls_none (B.dim hi').2.1 hK
theorem s_manyC {i k : Nat} (s : ShM h) (B : BsM h bs) (hi' : i < bs.length) (hk : k < 4) : qMC (d + 1) 195 [.ref 55, .int (iN i), .int (iN k)] h R ↔ R = (some (.int (iN (cel bs i k).length)), h) := by
  have b24 := B.1
  obtain ⟨di, di2, di4⟩ := B.dim hi'
  rw [s_many s (by omega) hk, di]
  by_cases hc : k < dmn bs i
  · rw [if_pos (by rw [iN_lt (by omega) (by omega)]; exact hc), (B.cells hi' k hk).1]
  · rw [if_neg (by rw [iN_lt (by omega) (by omega)]; exact hc), cel_none B hi' (by omega)]; rfl
theorem s_facetsC {i : Nat} (s : ShM h) (B : BsM h bs) (hi' : i < bs.length) : qMC (d + 2) 197 [.ref 55, .int (iN i)] h R ↔ R = (some (.int (iN (cel bs i (dmn bs i - 1)).length)), h) := by
  have b24 := B.1
  obtain ⟨di, di2, di4⟩ := B.dim hi'
  rw [s_facets s (by omega) di (by omega) (by omega), (B.cells hi' (dmn bs i - 1) (by omega)).1]
theorem s_setOfC {i k j : Nat} (s : ShM h) (B : BsM h bs) (hi' : i < bs.length) (hk : k < 4) (hj : j < (cel bs i k).length) : qMC (d + 1) 196 [.ref 55, .int (iN i), .int (iN k), .int (iN j)] h R ↔ R = (some (.int (iN ((cel bs i k).getD j 0))), h) := by
  have b24 := B.1
  obtain ⟨-, c2, c3⟩ := B.cells hi' k hk
  rw [s_setOf s (by omega), (c3 j hj).1]
theorem s_facetC {i j : Nat} (s : ShM h) (B : BsM h bs) (hi' : i < bs.length) (hj : j < (cel bs i (dmn bs i - 1)).length) : qMC (d + 2) 198 [.ref 55, .int (iN i), .int (iN j)] h R ↔ R = (some (.int (iN ((cel bs i (dmn bs i - 1)).getD j 0))), h) := by
  have b24 := B.1
  obtain ⟨di, di2, di4⟩ := B.dim hi'
  obtain ⟨-, c2, c3⟩ := B.cells hi' (dmn bs i - 1) (by omega)
  rw [s_facet s (by omega) di (by omega) (by omega) (by omega), (c3 j hj).1]
set_option maxRecDepth 100000 in
set_option maxHeartbeats 16000000 in
theorem s_faces (s : ShM h) (B : BsM h bs) (x y : Int32) :
    ((¬ ∃ i, i < bs.length ∧ x = iN i) → ∀ R, qMC (d + 3) 237 [.ref 55, .int x, .int y] h R ↔ R = (some (.int (-1001)), h)) ∧
    ∀ i, i < bs.length → x = iN i → (((¬ ∃ k, k ≤ 3 ∧ y = iN k) → ∀ R, qMC (d + 3) 237 [.ref 55, .int x, .int y] h R ↔ R = (some (.int (-1002)), h)) ∧ ∀ k, k ≤ 3 → y = iN k → ∀ R, qMC (d + 3) 237 [.ref 55, .int x, .int y] h R ↔ R = (some (.int (iN (cel bs i k).length)), h)) := by
  have rng : ((0 : Int64) ≤ y.toInt64 ∧ y.toInt64 ≤ 3) ↔ ∃ k, k ≤ 3 ∧ y = iN k := by
    have := in_rng (x := y) (a := 0) (b := 3) (by omega)
    rw [show (0 : Int64) = (iN 0).toInt64 from rfl, show (3 : Int64) = (iN 3).toInt64 from rfl, this]
    exact ⟨fun z => z.elim (fun ⟨k, h1, h2⟩ => ⟨k, h1.2, h2⟩) (fun z => by omega), fun ⟨k, h1, h2⟩ => Or.inl ⟨k, ⟨Nat.zero_le _, h1⟩, h2⟩⟩
  refine ⟨fun hx R => ?_, fun i hi' hx => ⟨fun hy R => ?_, fun k hk hy R => ?_⟩⟩
  · simp (disch := first | assumption | omega) only [e237_0, e237_1, e237_2, e237_5, e237_8, e237_11, e237_12, e237_13, e237_14, e237_15, e237_18, e237_21, e237_24, e237_25, e237_26, e237_27, e237_30, e237_33, e237_36, m237, ↓reduceIte, qg_0, qg_1, qg_2, qg_3, qg_4, qg_5, qg_6, qg_7, qg_8, qg_9, qg_10, qg_11, qg_12, qg_13, not_true_eq_false, not_false_eq_true, Nat.reduceBEq, Bool.false_eq_true, ex1, ex3, ex4, exF, qfit_i, qfit_l, qfit_r, qfit_n, qfit_b0, qfit_b1, qcat_i, qcat_r, qcat_n, qcat_l, qroom_0, qroom_c, List.map_cons, List.map_nil, List.sum_cons, List.sum_nil, Nat.reduceAdd, Nat.reduceMul, Nat.reduceLT, Nat.reduceLeDiff, Nat.reduceEqDiff, Nat.reduceSub, decide_true, true_and, and_true, and_self, if_true, if_false, Option.toList_some, Option.toList_none, List.cons_append, List.nil_append, qsL, qlong, List.length_cons, List.length_nil, vM1, vM2, s_isBody0 (d := d) s B hx]
  · have hb : bI ((0 : Int64) ≤ y.toInt64 ∧ y.toInt64 ≤ 3) = 0 := if_neg (fun z => hy (rng.mp z))
    simp (disch := first | assumption | omega) only [e237_0, e237_1, e237_2, e237_5, e237_8, e237_11, e237_12, e237_13, e237_14, e237_15, e237_18, e237_21, e237_24, e237_25, e237_26, e237_27, e237_30, e237_33, e237_36, m237, ↓reduceIte, qg_0, qg_1, qg_2, qg_3, qg_4, qg_5, qg_6, qg_7, qg_8, qg_9, qg_10, qg_11, qg_12, qg_13, not_true_eq_false, not_false_eq_true, Nat.reduceBEq, Bool.false_eq_true, ex1, ex3, ex4, exF, qfit_i, qfit_l, qfit_r, qfit_n, qfit_b0, qfit_b1, qcat_i, qcat_r, qcat_n, qcat_l, qroom_0, qroom_c, List.map_cons, List.map_nil, List.sum_cons, List.sum_nil, Nat.reduceAdd, Nat.reduceMul, Nat.reduceLT, Nat.reduceLeDiff, Nat.reduceEqDiff, Nat.reduceSub, decide_true, true_and, and_true, and_self, if_true, if_false, Option.toList_some, Option.toList_none, List.cons_append, List.nil_append, qsL, qlong, List.length_cons, List.length_nil, vM1, vM2, s_isBody1 (d := d) s B ⟨i, hi', hx⟩, show ¬ (1 : Int32) = 0 by decide, s_in, hb]
  · have hb : bI ((0 : Int64) ≤ y.toInt64 ∧ y.toInt64 ≤ 3) = 1 := if_pos (rng.mpr ⟨k, hk, hy⟩)
    simp (disch := first | assumption | omega) only [e237_0, e237_1, e237_2, e237_5, e237_8, e237_11, e237_12, e237_13, e237_14, e237_15, e237_18, e237_21, e237_24, e237_25, e237_26, e237_27, e237_30, e237_33, e237_36, m237, ↓reduceIte, qg_0, qg_1, qg_2, qg_3, qg_4, qg_5, qg_6, qg_7, qg_8, qg_9, qg_10, qg_11, qg_12, qg_13, not_true_eq_false, not_false_eq_true, Nat.reduceBEq, Bool.false_eq_true, ex1, ex3, ex4, exF, qfit_i, qfit_l, qfit_r, qfit_n, qfit_b0, qfit_b1, qcat_i, qcat_r, qcat_n, qcat_l, qroom_0, qroom_c, List.map_cons, List.map_nil, List.sum_cons, List.sum_nil, Nat.reduceAdd, Nat.reduceMul, Nat.reduceLT, Nat.reduceLeDiff, Nat.reduceEqDiff, Nat.reduceSub, decide_true, true_and, and_true, and_self, if_true, if_false, Option.toList_some, Option.toList_none, List.cons_append, List.nil_append, qsL, qlong, List.length_cons, List.length_nil, vM1, vM2, s_isBody1 (d := d) s B ⟨i, hi', hx⟩, show ¬ (1 : Int32) = 0 by decide, s_in, hb]
    subst hx hy
    simp (disch := first | assumption | omega) only [↓reduceIte, qg_0, qg_1, qg_2, qg_3, qg_4, qg_5, qg_6, qg_7, qg_8, qg_9, qg_10, qg_11, qg_12, qg_13, not_true_eq_false, not_false_eq_true, Nat.reduceBEq, Bool.false_eq_true, ex1, ex3, ex4, exF, qfit_i, qfit_l, qfit_r, qfit_n, qfit_b0, qfit_b1, qcat_i, qcat_r, qcat_n, qcat_l, qroom_0, qroom_c, List.map_cons, List.map_nil, List.sum_cons, List.sum_nil, Nat.reduceAdd, Nat.reduceMul, Nat.reduceLT, Nat.reduceLeDiff, Nat.reduceEqDiff, Nat.reduceSub, decide_true, true_and, and_true, and_self, if_true, if_false, Option.toList_some, Option.toList_none, List.cons_append, List.nil_append, qsL, qlong, List.length_cons, List.length_nil, s_manyC (d := d + 1) s B hi' (show k < 4 by omega), e237_0, e237_1, e237_2, e237_5, e237_8, e237_11, e237_12, e237_13, e237_14, e237_15, e237_18, e237_21, e237_24, e237_25, e237_26, e237_27, e237_30, e237_33, e237_36, m237]
/-- which of n is asked for -/
theorem in_cnt {x : Int32} {n : Nat} (hn : n < 2147483648) : ((0 : Int64) ≤ x.toInt64 ∧ x.toInt64 ≤ (iN n - 1).toInt64) ↔ ∃ k, k < n ∧ x = iN k := by
  rw [nb_body hn]
  constructor
  · rintro ⟨h1, h2⟩
    obtain ⟨k, hk, rfl⟩ := iN_of h1
    rw [iN_lt hk hn] at h2
    exact ⟨k, h2, rfl⟩
  · rintro ⟨k, hk, rfl⟩
    rw [show (0 : Int32) = iN 0 from rfl, iN_le (by omega) (by omega), iN_lt (by omega) hn]
    exact ⟨by omega, hk⟩
set_option maxRecDepth 100000 in
set_option maxHeartbeats 16000000 in
theorem s_face (s : ShM h) (B : BsM h bs) (x y z : Int32) :
    ((¬ ∃ i, i < bs.length ∧ x = iN i) → ∀ R, qMC (d + 3) 238 [.ref 55, .int x, .int y, .int z] h R ↔ R = (some (.int (-1001)), h)) ∧
    ∀ i, i < bs.length → x = iN i → (((¬ ∃ k, k < dmn bs i ∧ y = iN k) → ∀ R, qMC (d + 3) 238 [.ref 55, .int x, .int y, .int z] h R ↔ R = (some (.int (-1002)), h)) ∧ ∀ k, k < dmn bs i → y = iN k → (((¬ ∃ j, j < (cel bs i k).length ∧ z = iN j) → ∀ R, qMC (d + 3) 238 [.ref 55, .int x, .int y, .int z] h R ↔ R = (some (.int (-1001)), h)) ∧ ∀ j, j < (cel bs i k).length → z = iN j → ∀ R, qMC (d + 3) 238 [.ref 55, .int x, .int y, .int z] h R ↔ R = (some (.int (iN ((cel bs i k).getD j 0))), h))) := by
  refine ⟨fun hx R => ?_, fun i hi' hx => ?_⟩
  · simp (disch := first | assumption | omega) only [e238_0, e238_1, e238_2, e238_5, e238_8, e238_11, e238_12, e238_13, e238_14, e238_15, e238_16, e238_19, e238_20, e238_21, e238_22, e238_23, e238_24, e238_27, e238_30, e238_33, e238_34, e238_35, e238_36, e238_37, e238_38, e238_39, e238_40, e238_43, e238_44, e238_45, e238_46, e238_49, e238_52, e238_53, e238_54, e238_55, e238_56, e238_59, e238_62, e238_65, m238, ↓reduceIte, qg_0, qg_1, qg_2, qg_3, qg_4, qg_5, qg_6, qg_7, qg_8, qg_9, qg_10, qg_11, qg_12, qg_13, not_true_eq_false, not_false_eq_true, Nat.reduceBEq, Bool.false_eq_true, ex1, ex3, ex4, exF, qfit_i, qfit_l, qfit_r, qfit_n, qfit_b0, qfit_b1, qcat_i, qcat_r, qcat_n, qcat_l, qroom_0, qroom_c, List.map_cons, List.map_nil, List.sum_cons, List.sum_nil, Nat.reduceAdd, Nat.reduceMul, Nat.reduceLT, Nat.reduceLeDiff, Nat.reduceEqDiff, Nat.reduceSub, decide_true, true_and, and_true, and_self, if_true, if_false, Option.toList_some, Option.toList_none, List.cons_append, List.nil_append, qsL, qlong, List.length_cons, List.length_nil, vM1, vM2, s_isBody0 (d := d) s B hx]
  · have b24 := B.1
    obtain ⟨di, di2, di4⟩ := B.dim hi'
    subst hx
    have hsub : iN (dmn bs i) - 1 = iN (dmn bs i - 1) := iN_subL (by show 1 ≤ _; omega)
    have ib : ∃ k, k < bs.length ∧ iN i = iN k := ⟨i, hi', rfl⟩
    refine ⟨fun hy R => ?_, fun k hk hy => ?_⟩
    · have hb : bI ((0 : Int64) ≤ y.toInt64 ∧ y.toInt64 ≤ (iN (dmn bs i - 1)).toInt64) = 0 := if_neg (fun q => hy ((in_lt (by omega)).mp q))
      simp (disch := first | assumption | omega) only [e238_0, e238_1, e238_2, e238_5, e238_8, e238_11, e238_12, e238_13, e238_14, e238_15, e238_16, e238_19, e238_20, e238_21, e238_22, e238_23, e238_24, e238_27, e238_30, e238_33, e238_34, e238_35, e238_36, e238_37, e238_38, e238_39, e238_40, e238_43, e238_44, e238_45, e238_46, e238_49, e238_52, e238_53, e238_54, e238_55, e238_56, e238_59, e238_62, e238_65, m238, ↓reduceIte, qg_0, qg_1, qg_2, qg_3, qg_4, qg_5, qg_6, qg_7, qg_8, qg_9, qg_10, qg_11, qg_12, qg_13, not_true_eq_false, not_false_eq_true, Nat.reduceBEq, Bool.false_eq_true, ex1, ex3, ex4, exF, qfit_i, qfit_l, qfit_r, qfit_n, qfit_b0, qfit_b1, qcat_i, qcat_r, qcat_n, qcat_l, qroom_0, qroom_c, List.map_cons, List.map_nil, List.sum_cons, List.sum_nil, Nat.reduceAdd, Nat.reduceMul, Nat.reduceLT, Nat.reduceLeDiff, Nat.reduceEqDiff, Nat.reduceSub, decide_true, true_and, and_true, and_self, if_true, if_false, Option.toList_some, Option.toList_none, List.cons_append, List.nil_append, qsL, qlong, List.length_cons, List.length_nil, vM1, vM2, s_isBody1 (d := d) s B ib, show ¬ (1 : Int32) = 0 by decide, gM_1, rM_56, di, hsub, s_in, hb]
    · subst hy
      have hb : bI ((0 : Int64) ≤ (iN k).toInt64 ∧ (iN k).toInt64 ≤ (iN (dmn bs i - 1)).toInt64) = 1 := if_pos ((in_lt (by omega)).mpr ⟨k, hk, rfl⟩)
      have c2 := (B.cells hi' k (by omega)).2.1
      refine ⟨fun hz R => ?_, fun j hj hz R => ?_⟩
      · have hb2 : bI ((0 : Int64) ≤ z.toInt64 ∧ z.toInt64 ≤ (iN (cel bs i k).length - 1).toInt64) = 0 := if_neg (fun q => hz ((in_cnt (by omega)).mp q))
        simp (disch := first | assumption | omega) only [e238_0, e238_1, e238_2, e238_5, e238_8, e238_11, e238_12, e238_13, e238_14, e238_15, e238_16, e238_19, e238_20, e238_21, e238_22, e238_23, e238_24, e238_27, e238_30, e238_33, e238_34, e238_35, e238_36, e238_37, e238_38, e238_39, e238_40, e238_43, e238_44, e238_45, e238_46, e238_49, e238_52, e238_53, e238_54, e238_55, e238_56, e238_59, e238_62, e238_65, m238, ↓reduceIte, qg_0, qg_1, qg_2, qg_3, qg_4, qg_5, qg_6, qg_7, qg_8, qg_9, qg_10, qg_11, qg_12, qg_13, not_true_eq_false, not_false_eq_true, Nat.reduceBEq, Bool.false_eq_true, ex1, ex3, ex4, exF, qfit_i, qfit_l, qfit_r, qfit_n, qfit_b0, qfit_b1, qcat_i, qcat_r, qcat_n, qcat_l, qroom_0, qroom_c, List.map_cons, List.map_nil, List.sum_cons, List.sum_nil, Nat.reduceAdd, Nat.reduceMul, Nat.reduceLT, Nat.reduceLeDiff, Nat.reduceEqDiff, Nat.reduceSub, decide_true, true_and, and_true, and_self, if_true, if_false, Option.toList_some, Option.toList_none, List.cons_append, List.nil_append, qsL, qlong, List.length_cons, List.length_nil, vM1, vM2, s_isBody1 (d := d) s B ib, show ¬ (1 : Int32) = 0 by decide, gM_1, rM_56, di, hsub, s_in, hb, s_manyC (d := d + 1) s B hi' (show k < 4 by omega), hb2]
      · subst hz
        have hb2 : bI ((0 : Int64) ≤ (iN j).toInt64 ∧ (iN j).toInt64 ≤ (iN (cel bs i k).length - 1).toInt64) = 1 := if_pos ((in_cnt (by omega)).mpr ⟨j, hj, rfl⟩)
        simp (disch := first | assumption | omega) only [e238_0, e238_1, e238_2, e238_5, e238_8, e238_11, e238_12, e238_13, e238_14, e238_15, e238_16, e238_19, e238_20, e238_21, e238_22, e238_23, e238_24, e238_27, e238_30, e238_33, e238_34, e238_35, e238_36, e238_37, e238_38, e238_39, e238_40, e238_43, e238_44, e238_45, e238_46, e238_49, e238_52, e238_53, e238_54, e238_55, e238_56, e238_59, e238_62, e238_65, m238, ↓reduceIte, qg_0, qg_1, qg_2, qg_3, qg_4, qg_5, qg_6, qg_7, qg_8, qg_9, qg_10, qg_11, qg_12, qg_13, not_true_eq_false, not_false_eq_true, Nat.reduceBEq, Bool.false_eq_true, ex1, ex3, ex4, exF, qfit_i, qfit_l, qfit_r, qfit_n, qfit_b0, qfit_b1, qcat_i, qcat_r, qcat_n, qcat_l, qroom_0, qroom_c, List.map_cons, List.map_nil, List.sum_cons, List.sum_nil, Nat.reduceAdd, Nat.reduceMul, Nat.reduceLT, Nat.reduceLeDiff, Nat.reduceEqDiff, Nat.reduceSub, decide_true, true_and, and_true, and_self, if_true, if_false, Option.toList_some, Option.toList_none, List.cons_append, List.nil_append, qsL, qlong, List.length_cons, List.length_nil, vM1, vM2, s_isBody1 (d := d) s B ib, show ¬ (1 : Int32) = 0 by decide, gM_1, rM_56, di, hsub, s_in, hb, s_manyC (d := d + 1) s B hi' (show k < 4 by omega), hb2, s_setOfC (d := d + 1) s B hi' (show k < 4 by omega) hj]
end QUERY

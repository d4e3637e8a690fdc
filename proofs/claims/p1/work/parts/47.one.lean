/-! ===== THE LAW WITH ONE CALL (by program: wip/gen/mk47.py) ===== -/
theorem lg_self (v : Int64) : lg_cmp v v = 0 := by
  unfold lg_cmp
  rw [if_neg (fun h => Int64.lt_irrefl h), if_pos rfl]
theorem hF_lo {f : Nat → qC} {a : Nat} (h : a < 16) : hF f a = f a := (hM_lt (by omega)).trans (hX_lt h)
set_option maxRecDepth 100000 in
set_option maxHeartbeats 8000000 in
theorem law_begin {f0 : Nat → qC} {R : qRes} (hR : qEv 1000 3 qk_116 18 [some (.ref 0), some (.ref 16), some (.ref 55), some (.int 0)] [] (hF f0, 97, 78870) R) : qEv 1000 3 qk_116 0 [some (.ref 0), none, none, none] [] (f0, 16, 0) R := by
  have e1 : qMC 1000 20 [.ref 16] (qup f0 16 (.inr (10, qdef 10)), 17, 13) (none, (hX f0, 55, 2468)) := by
    have := new_X (d := 998) (k := 0) (f := f0)
    simp only [qnew_mk, Nat.reduceAdd] at this
    exact this
  have e2 : qMC 1000 67 [.ref 55] (qup (hX f0) 55 (.inr (11, qdef 11)), 56, 2531) (none, (hF f0, 97, 78870)) := by
    have := new_M (d := 999) (k := 2468) (f := hX f0)
    simp only [qnew_mk, Nat.reduceAdd] at this
    exact this
  simp only [e116_0, e116_3, e116_4, e116_7, e116_8, e116_11, e116_12, e116_15, e116_16, e116_17, qnew_mk, qMC_det e1, qMC_det e2, ↓reduceIte, qg_7, qg_8, qg_9, qg_10, qg_11, not_true_eq_false, not_false_eq_true, Nat.reduceBEq, Bool.false_eq_true, Nat.reduceMul, qg_0, qg_1, qg_2, qg_3, qg_4, qg_5, qg_6, ex1, ex3, ex4, qfit_i, qfit_l, qfit_r, qfit_n, qfit_b0, qfit_b1, qcat_i, qcat_r, qcat_n, qcat_l, qroom_0, qroom_c, List.map_cons, List.map_nil, List.sum_cons, List.sum_nil, Nat.reduceAdd, Nat.reduceLT, Nat.reduceLeDiff, Nat.reduceEqDiff, Nat.reduceSub, decide_true, true_and, and_true, and_self, if_true, if_false, Option.toList_some, Option.toList_none, List.cons_append, List.nil_append, qget_mk, qput_mk, qiald_mk, qiast_mk, qup_at, exF, qnF0, qnF1, qnF2, qnF3, qnF4, qnF5, qnF6, qnF7, qnF8, qnF9, qnF10, qnF11, qsL, qlong, List.length_cons, List.length_nil]
  exact hR
theorem ald_s {g : Nat → qC} {n k : Nat} {xs : Nat → Int32} (h0 : g 0 = .inl (0, 7, .inl xs)) {i : Int32} {j : Nat} (hi : ¬ (i < 0 ∨ 7 ≤ i.toNatClampNeg)) (hj : i.toNatClampNeg = j) : qiald (g, n, k) 0 i = some (xs j) := by
  unfold qiald
  rw [if_pos (Or.inl rfl), show (g, n, k).1 0 = .inl (0, 7, .inl xs) from h0]
  show (if i < 0 ∨ 7 ≤ i.toNatClampNeg then none else some (xs i.toNatClampNeg)) = _
  rw [if_neg hi, hj]
theorem ale_s {g : Nat → qC} {n k L : Nat} {xs : Nat → Int32} (h0 : g 0 = .inl (0, L, .inl xs)) : qalen (g, n, k) 0 = some (Int32.ofNat L) := by
  unfold qalen
  rw [if_pos (Or.inl rfl), show (g, n, k).1 0 = .inl (0, L, .inl xs) from h0]
  rfl
set_option maxRecDepth 100000 in
set_option maxHeartbeats 8000000 in
theorem law_out {h : qH} {L : Nat} {xs : Nat → Int32} (h0 : h.1 0 = .inl (0, L, .inl xs)) {i : Int32} (hi : Int32.ofNat L - 7 < i) : qEv 1000 3 qk_116 18 [some (.ref 0), some (.ref 16), some (.ref 55), some (.int i)] [] h (some (.int 1), h) := by
  obtain ⟨g, n, k⟩ := h
  simp only [e116_18, e116_19, e116_20, e116_21, e116_23, e116_24, e116_1623, e116_1624, ale_s h0, ↓reduceIte, qg_7, qg_8, qg_9, qg_10, qg_11, not_true_eq_false, not_false_eq_true, Nat.reduceBEq, Bool.false_eq_true, Nat.reduceMul, qg_0, qg_1, qg_2, qg_3, qg_4, qg_5, qg_6, ex1, ex3, ex4, qfit_i, qfit_l, qfit_r, qfit_n, qfit_b0, qfit_b1, qcat_i, qcat_r, qcat_n, qcat_l, qroom_0, qroom_c, List.map_cons, List.map_nil, List.sum_cons, List.sum_nil, Nat.reduceAdd, Nat.reduceLT, Nat.reduceLeDiff, Nat.reduceEqDiff, Nat.reduceSub, decide_true, true_and, and_true, and_self, if_true, if_false, Option.toList_some, Option.toList_none, List.cons_append, List.nil_append, qget_mk, qput_mk, qiald_mk, qiast_mk, qup_at, exF, qnF0, qnF1, qnF2, qnF3, qnF4, qnF5, qnF6, qnF7, qnF8, qnF9, qnF10, qnF11, hi]
set_option maxRecDepth 100000 in
set_option maxHeartbeats 8000000 in
theorem law_last {h : qH} {xs : Nat → Int32} (h0 : h.1 0 = .inl (0, 7, .inl xs)) : qEv 1000 3 qk_116 1617 [some (.ref 0), some (.ref 16), some (.ref 55), some (.int 0)] [] h (some (.int 1), h) := by
  have := law_out (i := 7) h0 (by decide)
  simp only [e116_1617, e116_1620, exI, ↓reduceIte, qg_7, qg_8, qg_9, qg_10, qg_11, not_true_eq_false, not_false_eq_true, Nat.reduceBEq, Bool.false_eq_true, Nat.reduceMul, qg_0, qg_1, qg_2, qg_3, qg_4, qg_5, qg_6, ex1, ex3, ex4, qfit_i, qfit_l, qfit_r, qfit_n, qfit_b0, qfit_b1, qcat_i, qcat_r, qcat_n, qcat_l, qroom_0, qroom_c, List.map_cons, List.map_nil, List.sum_cons, List.sum_nil, Nat.reduceAdd, Nat.reduceLT, Nat.reduceLeDiff, Nat.reduceEqDiff, Nat.reduceSub, decide_true, true_and, and_true, and_self, if_true, if_false, Option.toList_some, Option.toList_none, List.cons_append, List.nil_append, qget_mk, qput_mk, qiald_mk, qiast_mk, qup_at, exF, qnF0, qnF1, qnF2, qnF3, qnF4, qnF5, qnF6, qnF7, qnF8, qnF9, qnF10, qnF11, qsL, qlong, show (0 : Int32) + 7 = 7 from rfl]
  exact this
set_option maxRecDepth 100000 in
set_option maxHeartbeats 8000000 in
theorem law_0 {f : Nat → qC} {xs : Nat → Int32} (h0 : f 0 = .inl (0, 7, .inl xs)) : ∃ h2, qEv 1000 3 qk_116 216 [some (.ref 0), some (.ref 16), some (.ref 55), some (.int 0)] [] (hF f, 97, 78870) (some (.int 1), h2) ∧ h2.2 = (97, 78870) := by
  have hp : ∃ v, prI 21 72 [.int (xs 1), .int (xs 2), .int (xs 3), .int (xs 4)] (991 + 9) 78870 f v := pa_point
  obtain ⟨v, h1, e1, h2, e2, e3⟩ := hp
  have e1 : qMC 1000 21 [.ref 16, .int (xs 1), .int (xs 2), .int (xs 3), .int (xs 4)] (hF f, 97, 78870) (some (.int v), h1) := e1
  have e2 : qMC 1000 72 [.ref 55, .int (xs 1), .int (xs 2), .int (xs 3), .int (xs 4)] h1 (some (.int v), h2) := e2
  have k1 := e1.keep
  have k2 := e2.keep
  have g0 : hF f 0 = .inl (0, 7, .inl xs) := (hF_lo (by omega)).trans h0
  have g1 : h1.1 0 = .inl (0, 7, .inl xs) := (k1.2.2.2 (show 16 ≤ 97 by decide) 0 (by omega)).trans g0
  have g2 : h2.1 0 = .inl (0, 7, .inl xs) := (k2.2.2.2 (Nat.le_trans (show 16 ≤ 97 by decide) k1.1) 0 (by omega)).trans g1
  have hm1 : (55 < h1.2.1) = True := eq_true (Nat.lt_of_lt_of_le (show 55 < 97 by decide) k1.1)
  have hm2 : (∃ F, h1.1 55 = .inr (11, F)) = True := eq_true (k1.obj (show 55 < 97 by decide) (hF_55 (f := f)))
  have hend := law_last g2
  refine ⟨h2, ?_, e3⟩
  obtain ⟨h1f, h1n, h1s⟩ := h1
  simp only [e116_216, e116_217, e116_218, e116_219, e116_220, e116_221, e116_222, e116_223, e116_224, e116_225, e116_226, e116_227, e116_228, e116_229, e116_230, e116_231, e116_232, e116_233, e116_234, e116_235, e116_236, e116_237, e116_240, e116_241, e116_242, e116_243, e116_244, e116_245, e116_246, e116_247, e116_248, e116_249, e116_250, e116_251, e116_252, e116_253, e116_254, e116_255, e116_256, e116_257, e116_258, e116_259, e116_260, e116_261, e116_264, e116_267, e116_268, hF_16, hF_55, ald_s g0 (i := 1) (j := 1) (by decide) (by decide), ald_s g0 (i := 2) (j := 2) (by decide) (by decide), ald_s g0 (i := 3) (j := 3) (by decide) (by decide), ald_s g0 (i := 4) (j := 4) (by decide) (by decide), ald_s g0 (i := 5) (j := 5) (by decide) (by decide), ald_s g0 (i := 6) (j := 6) (by decide) (by decide), ald_s g1 (i := 1) (j := 1) (by decide) (by decide), ald_s g1 (i := 2) (j := 2) (by decide) (by decide), ald_s g1 (i := 3) (j := 3) (by decide) (by decide), ald_s g1 (i := 4) (j := 4) (by decide) (by decide), ald_s g1 (i := 5) (j := 5) (by decide) (by decide), ald_s g1 (i := 6) (j := 6) (by decide) (by decide), show (0 : Int32) + 1 = 1 from rfl, show (0 : Int32) + 2 = 2 from rfl, show (0 : Int32) + 3 = 3 from rfl, show (0 : Int32) + 4 = 4 from rfl, show (0 : Int32) + 5 = 5 from rfl, show (0 : Int32) + 6 = 6 from rfl, qMC_det e1, qMC_det e2, hm1, hm2, lg_self, eq_self, ↓reduceIte, qg_7, qg_8, qg_9, qg_10, qg_11, not_true_eq_false, not_false_eq_true, Nat.reduceBEq, Bool.false_eq_true, Nat.reduceMul, qg_0, qg_1, qg_2, qg_3, qg_4, qg_5, qg_6, ex1, ex3, ex4, qfit_i, qfit_l, qfit_r, qfit_n, qfit_b0, qfit_b1, qcat_i, qcat_r, qcat_n, qcat_l, qroom_0, qroom_c, List.map_cons, List.map_nil, List.sum_cons, List.sum_nil, Nat.reduceAdd, Nat.reduceLT, Nat.reduceLeDiff, Nat.reduceEqDiff, Nat.reduceSub, decide_true, true_and, and_true, and_self, if_true, if_false, Option.toList_some, Option.toList_none, List.cons_append, List.nil_append, qput_mk, qiast_mk, qup_at, exF, qnF0, qnF1, qnF2, qnF3, qnF4, qnF5, qnF6, qnF7, qnF8, qnF9, qnF10, qnF11]
  exact hend
set_option maxRecDepth 100000 in
set_option maxHeartbeats 8000000 in
theorem law_1 {f : Nat → qC} {xs : Nat → Int32} (h0 : f 0 = .inl (0, 7, .inl xs)) : ∃ h2, qEv 1000 3 qk_116 269 [some (.ref 0), some (.ref 16), some (.ref 55), some (.int 0)] [] (hF f, 97, 78870) (some (.int 1), h2) ∧ h2.2 = (97, 78870) := by
  have hp : ∃ v, prI 22 73 [] (991 + 9) 78870 f v := pa_wipe
  obtain ⟨v, h1, e1, h2, e2, e3⟩ := hp
  have e1 : qMC 1000 22 [.ref 16] (hF f, 97, 78870) (some (.int v), h1) := e1
  have e2 : qMC 1000 73 [.ref 55] h1 (some (.int v), h2) := e2
  have k1 := e1.keep
  have k2 := e2.keep
  have g0 : hF f 0 = .inl (0, 7, .inl xs) := (hF_lo (by omega)).trans h0
  have g1 : h1.1 0 = .inl (0, 7, .inl xs) := (k1.2.2.2 (show 16 ≤ 97 by decide) 0 (by omega)).trans g0
  have g2 : h2.1 0 = .inl (0, 7, .inl xs) := (k2.2.2.2 (Nat.le_trans (show 16 ≤ 97 by decide) k1.1) 0 (by omega)).trans g1
  have hm1 : (55 < h1.2.1) = True := eq_true (Nat.lt_of_lt_of_le (show 55 < 97 by decide) k1.1)
  have hm2 : (∃ F, h1.1 55 = .inr (11, F)) = True := eq_true (k1.obj (show 55 < 97 by decide) (hF_55 (f := f)))
  have hend := law_last g2
  refine ⟨h2, ?_, e3⟩
  obtain ⟨h1f, h1n, h1s⟩ := h1
  simp only [e116_269, e116_270, e116_273, e116_274, e116_277, e116_280, e116_281, hF_16, hF_55, ald_s g0 (i := 1) (j := 1) (by decide) (by decide), ald_s g0 (i := 2) (j := 2) (by decide) (by decide), ald_s g0 (i := 3) (j := 3) (by decide) (by decide), ald_s g0 (i := 4) (j := 4) (by decide) (by decide), ald_s g0 (i := 5) (j := 5) (by decide) (by decide), ald_s g0 (i := 6) (j := 6) (by decide) (by decide), ald_s g1 (i := 1) (j := 1) (by decide) (by decide), ald_s g1 (i := 2) (j := 2) (by decide) (by decide), ald_s g1 (i := 3) (j := 3) (by decide) (by decide), ald_s g1 (i := 4) (j := 4) (by decide) (by decide), ald_s g1 (i := 5) (j := 5) (by decide) (by decide), ald_s g1 (i := 6) (j := 6) (by decide) (by decide), show (0 : Int32) + 1 = 1 from rfl, show (0 : Int32) + 2 = 2 from rfl, show (0 : Int32) + 3 = 3 from rfl, show (0 : Int32) + 4 = 4 from rfl, show (0 : Int32) + 5 = 5 from rfl, show (0 : Int32) + 6 = 6 from rfl, qMC_det e1, qMC_det e2, hm1, hm2, lg_self, eq_self, ↓reduceIte, qg_7, qg_8, qg_9, qg_10, qg_11, not_true_eq_false, not_false_eq_true, Nat.reduceBEq, Bool.false_eq_true, Nat.reduceMul, qg_0, qg_1, qg_2, qg_3, qg_4, qg_5, qg_6, ex1, ex3, ex4, qfit_i, qfit_l, qfit_r, qfit_n, qfit_b0, qfit_b1, qcat_i, qcat_r, qcat_n, qcat_l, qroom_0, qroom_c, List.map_cons, List.map_nil, List.sum_cons, List.sum_nil, Nat.reduceAdd, Nat.reduceLT, Nat.reduceLeDiff, Nat.reduceEqDiff, Nat.reduceSub, decide_true, true_and, and_true, and_self, if_true, if_false, Option.toList_some, Option.toList_none, List.cons_append, List.nil_append, qput_mk, qiast_mk, qup_at, exF, qnF0, qnF1, qnF2, qnF3, qnF4, qnF5, qnF6, qnF7, qnF8, qnF9, qnF10, qnF11]
  exact hend
set_option maxRecDepth 100000 in
set_option maxHeartbeats 8000000 in
theorem law_2 {f : Nat → qC} {xs : Nat → Int32} (h0 : f 0 = .inl (0, 7, .inl xs)) : ∃ h2, qEv 1000 3 qk_116 282 [some (.ref 0), some (.ref 16), some (.ref 55), some (.int 0)] [] (hF f, 97, 78870) (some (.int 1), h2) ∧ h2.2 = (97, 78870) := by
  have hp : ∃ v, prI 23 74 [.int (xs 1)] (991 + 9) 78870 f v := pa_body
  obtain ⟨v, h1, e1, h2, e2, e3⟩ := hp
  have e1 : qMC 1000 23 [.ref 16, .int (xs 1)] (hF f, 97, 78870) (some (.int v), h1) := e1
  have e2 : qMC 1000 74 [.ref 55, .int (xs 1)] h1 (some (.int v), h2) := e2
  have k1 := e1.keep
  have k2 := e2.keep
  have g0 : hF f 0 = .inl (0, 7, .inl xs) := (hF_lo (by omega)).trans h0
  have g1 : h1.1 0 = .inl (0, 7, .inl xs) := (k1.2.2.2 (show 16 ≤ 97 by decide) 0 (by omega)).trans g0
  have g2 : h2.1 0 = .inl (0, 7, .inl xs) := (k2.2.2.2 (Nat.le_trans (show 16 ≤ 97 by decide) k1.1) 0 (by omega)).trans g1
  have hm1 : (55 < h1.2.1) = True := eq_true (Nat.lt_of_lt_of_le (show 55 < 97 by decide) k1.1)
  have hm2 : (∃ F, h1.1 55 = .inr (11, F)) = True := eq_true (k1.obj (show 55 < 97 by decide) (hF_55 (f := f)))
  have hend := law_last g2
  refine ⟨h2, ?_, e3⟩
  obtain ⟨h1f, h1n, h1s⟩ := h1
  simp only [e116_282, e116_283, e116_284, e116_285, e116_286, e116_287, e116_288, e116_291, e116_292, e116_293, e116_294, e116_295, e116_296, e116_297, e116_300, e116_303, e116_304, hF_16, hF_55, ald_s g0 (i := 1) (j := 1) (by decide) (by decide), ald_s g0 (i := 2) (j := 2) (by decide) (by decide), ald_s g0 (i := 3) (j := 3) (by decide) (by decide), ald_s g0 (i := 4) (j := 4) (by decide) (by decide), ald_s g0 (i := 5) (j := 5) (by decide) (by decide), ald_s g0 (i := 6) (j := 6) (by decide) (by decide), ald_s g1 (i := 1) (j := 1) (by decide) (by decide), ald_s g1 (i := 2) (j := 2) (by decide) (by decide), ald_s g1 (i := 3) (j := 3) (by decide) (by decide), ald_s g1 (i := 4) (j := 4) (by decide) (by decide), ald_s g1 (i := 5) (j := 5) (by decide) (by decide), ald_s g1 (i := 6) (j := 6) (by decide) (by decide), show (0 : Int32) + 1 = 1 from rfl, show (0 : Int32) + 2 = 2 from rfl, show (0 : Int32) + 3 = 3 from rfl, show (0 : Int32) + 4 = 4 from rfl, show (0 : Int32) + 5 = 5 from rfl, show (0 : Int32) + 6 = 6 from rfl, qMC_det e1, qMC_det e2, hm1, hm2, lg_self, eq_self, ↓reduceIte, qg_7, qg_8, qg_9, qg_10, qg_11, not_true_eq_false, not_false_eq_true, Nat.reduceBEq, Bool.false_eq_true, Nat.reduceMul, qg_0, qg_1, qg_2, qg_3, qg_4, qg_5, qg_6, ex1, ex3, ex4, qfit_i, qfit_l, qfit_r, qfit_n, qfit_b0, qfit_b1, qcat_i, qcat_r, qcat_n, qcat_l, qroom_0, qroom_c, List.map_cons, List.map_nil, List.sum_cons, List.sum_nil, Nat.reduceAdd, Nat.reduceLT, Nat.reduceLeDiff, Nat.reduceEqDiff, Nat.reduceSub, decide_true, true_and, and_true, and_self, if_true, if_false, Option.toList_some, Option.toList_none, List.cons_append, List.nil_append, qput_mk, qiast_mk, qup_at, exF, qnF0, qnF1, qnF2, qnF3, qnF4, qnF5, qnF6, qnF7, qnF8, qnF9, qnF10, qnF11]
  exact hend
set_option maxRecDepth 100000 in
set_option maxHeartbeats 8000000 in
theorem law_3 {f : Nat → qC} {xs : Nat → Int32} (h0 : f 0 = .inl (0, 7, .inl xs)) : ∃ h2, qEv 1000 3 qk_116 305 [some (.ref 0), some (.ref 16), some (.ref 55), some (.int 0)] [] (hF f, 97, 78870) (some (.int 1), h2) ∧ h2.2 = (97, 78870) := by
  have hp : ∃ v, prI 24 75 [.int (xs 1), .int (xs 2), .int (xs 3), .int (xs 4), .int (xs 5), .int (xs 6)] (991 + 9) 78870 f v := pa_cut
  obtain ⟨v, h1, e1, h2, e2, e3⟩ := hp
  have e1 : qMC 1000 24 [.ref 16, .int (xs 1), .int (xs 2), .int (xs 3), .int (xs 4), .int (xs 5), .int (xs 6)] (hF f, 97, 78870) (some (.int v), h1) := e1
  have e2 : qMC 1000 75 [.ref 55, .int (xs 1), .int (xs 2), .int (xs 3), .int (xs 4), .int (xs 5), .int (xs 6)] h1 (some (.int v), h2) := e2
  have k1 := e1.keep
  have k2 := e2.keep
  have g0 : hF f 0 = .inl (0, 7, .inl xs) := (hF_lo (by omega)).trans h0
  have g1 : h1.1 0 = .inl (0, 7, .inl xs) := (k1.2.2.2 (show 16 ≤ 97 by decide) 0 (by omega)).trans g0
  have g2 : h2.1 0 = .inl (0, 7, .inl xs) := (k2.2.2.2 (Nat.le_trans (show 16 ≤ 97 by decide) k1.1) 0 (by omega)).trans g1
  have hm1 : (55 < h1.2.1) = True := eq_true (Nat.lt_of_lt_of_le (show 55 < 97 by decide) k1.1)
  have hm2 : (∃ F, h1.1 55 = .inr (11, F)) = True := eq_true (k1.obj (show 55 < 97 by decide) (hF_55 (f := f)))
  have hend := law_last g2
  refine ⟨h2, ?_, e3⟩
  obtain ⟨h1f, h1n, h1s⟩ := h1
  simp only [e116_305, e116_306, e116_307, e116_308, e116_309, e116_310, e116_311, e116_312, e116_313, e116_314, e116_315, e116_316, e116_317, e116_318, e116_319, e116_320, e116_321, e116_322, e116_323, e116_324, e116_325, e116_326, e116_327, e116_328, e116_329, e116_330, e116_331, e116_332, e116_333, e116_335, e116_336, e116_337, e116_340, e116_341, e116_342, e116_343, e116_344, e116_345, e116_346, e116_347, e116_348, e116_349, e116_350, e116_351, e116_352, e116_353, e116_354, e116_355, e116_356, e116_357, e116_358, e116_359, e116_360, e116_361, e116_362, e116_363, e116_364, e116_365, e116_366, e116_367, e116_368, e116_370, e116_371, e116_372, e116_375, e116_378, e116_379, hF_16, hF_55, ald_s g0 (i := 1) (j := 1) (by decide) (by decide), ald_s g0 (i := 2) (j := 2) (by decide) (by decide), ald_s g0 (i := 3) (j := 3) (by decide) (by decide), ald_s g0 (i := 4) (j := 4) (by decide) (by decide), ald_s g0 (i := 5) (j := 5) (by decide) (by decide), ald_s g0 (i := 6) (j := 6) (by decide) (by decide), ald_s g1 (i := 1) (j := 1) (by decide) (by decide), ald_s g1 (i := 2) (j := 2) (by decide) (by decide), ald_s g1 (i := 3) (j := 3) (by decide) (by decide), ald_s g1 (i := 4) (j := 4) (by decide) (by decide), ald_s g1 (i := 5) (j := 5) (by decide) (by decide), ald_s g1 (i := 6) (j := 6) (by decide) (by decide), show (0 : Int32) + 1 = 1 from rfl, show (0 : Int32) + 2 = 2 from rfl, show (0 : Int32) + 3 = 3 from rfl, show (0 : Int32) + 4 = 4 from rfl, show (0 : Int32) + 5 = 5 from rfl, show (0 : Int32) + 6 = 6 from rfl, qMC_det e1, qMC_det e2, hm1, hm2, lg_self, eq_self, ↓reduceIte, qg_7, qg_8, qg_9, qg_10, qg_11, not_true_eq_false, not_false_eq_true, Nat.reduceBEq, Bool.false_eq_true, Nat.reduceMul, qg_0, qg_1, qg_2, qg_3, qg_4, qg_5, qg_6, ex1, ex3, ex4, qfit_i, qfit_l, qfit_r, qfit_n, qfit_b0, qfit_b1, qcat_i, qcat_r, qcat_n, qcat_l, qroom_0, qroom_c, List.map_cons, List.map_nil, List.sum_cons, List.sum_nil, Nat.reduceAdd, Nat.reduceLT, Nat.reduceLeDiff, Nat.reduceEqDiff, Nat.reduceSub, decide_true, true_and, and_true, and_self, if_true, if_false, Option.toList_some, Option.toList_none, List.cons_append, List.nil_append, qput_mk, qiast_mk, qup_at, exF, qnF0, qnF1, qnF2, qnF3, qnF4, qnF5, qnF6, qnF7, qnF8, qnF9, qnF10, qnF11]
  exact hend
set_option maxRecDepth 100000 in
set_option maxHeartbeats 8000000 in
theorem law_4 {f : Nat → qC} {xs : Nat → Int32} (h0 : f 0 = .inl (0, 7, .inl xs)) : ∃ h2, qEv 1000 3 qk_116 380 [some (.ref 0), some (.ref 16), some (.ref 55), some (.int 0)] [] (hF f, 97, 78870) (some (.int 1), h2) ∧ h2.2 = (97, 78870) := by
  have hp : ∃ v, prI 25 76 [.int (xs 1), .int (xs 2), .int (xs 3)] (991 + 9) 78870 f v := pa_slice
  obtain ⟨v, h1, e1, h2, e2, e3⟩ := hp
  have e1 : qMC 1000 25 [.ref 16, .int (xs 1), .int (xs 2), .int (xs 3)] (hF f, 97, 78870) (some (.int v), h1) := e1
  have e2 : qMC 1000 76 [.ref 55, .int (xs 1), .int (xs 2), .int (xs 3)] h1 (some (.int v), h2) := e2
  have k1 := e1.keep
  have k2 := e2.keep
  have g0 : hF f 0 = .inl (0, 7, .inl xs) := (hF_lo (by omega)).trans h0
  have g1 : h1.1 0 = .inl (0, 7, .inl xs) := (k1.2.2.2 (show 16 ≤ 97 by decide) 0 (by omega)).trans g0
  have g2 : h2.1 0 = .inl (0, 7, .inl xs) := (k2.2.2.2 (Nat.le_trans (show 16 ≤ 97 by decide) k1.1) 0 (by omega)).trans g1
  have hm1 : (55 < h1.2.1) = True := eq_true (Nat.lt_of_lt_of_le (show 55 < 97 by decide) k1.1)
  have hm2 : (∃ F, h1.1 55 = .inr (11, F)) = True := eq_true (k1.obj (show 55 < 97 by decide) (hF_55 (f := f)))
  have hend := law_last g2
  refine ⟨h2, ?_, e3⟩
  obtain ⟨h1f, h1n, h1s⟩ := h1
  simp only [e116_380, e116_381, e116_382, e116_383, e116_384, e116_385, e116_386, e116_387, e116_388, e116_389, e116_390, e116_391, e116_392, e116_393, e116_394, e116_395, e116_396, e116_399, e116_400, e116_401, e116_402, e116_403, e116_404, e116_405, e116_406, e116_407, e116_408, e116_409, e116_410, e116_411, e116_412, e116_413, e116_414, e116_415, e116_418, e116_421, e116_422, hF_16, hF_55, ald_s g0 (i := 1) (j := 1) (by decide) (by decide), ald_s g0 (i := 2) (j := 2) (by decide) (by decide), ald_s g0 (i := 3) (j := 3) (by decide) (by decide), ald_s g0 (i := 4) (j := 4) (by decide) (by decide), ald_s g0 (i := 5) (j := 5) (by decide) (by decide), ald_s g0 (i := 6) (j := 6) (by decide) (by decide), ald_s g1 (i := 1) (j := 1) (by decide) (by decide), ald_s g1 (i := 2) (j := 2) (by decide) (by decide), ald_s g1 (i := 3) (j := 3) (by decide) (by decide), ald_s g1 (i := 4) (j := 4) (by decide) (by decide), ald_s g1 (i := 5) (j := 5) (by decide) (by decide), ald_s g1 (i := 6) (j := 6) (by decide) (by decide), show (0 : Int32) + 1 = 1 from rfl, show (0 : Int32) + 2 = 2 from rfl, show (0 : Int32) + 3 = 3 from rfl, show (0 : Int32) + 4 = 4 from rfl, show (0 : Int32) + 5 = 5 from rfl, show (0 : Int32) + 6 = 6 from rfl, qMC_det e1, qMC_det e2, hm1, hm2, lg_self, eq_self, ↓reduceIte, qg_7, qg_8, qg_9, qg_10, qg_11, not_true_eq_false, not_false_eq_true, Nat.reduceBEq, Bool.false_eq_true, Nat.reduceMul, qg_0, qg_1, qg_2, qg_3, qg_4, qg_5, qg_6, ex1, ex3, ex4, qfit_i, qfit_l, qfit_r, qfit_n, qfit_b0, qfit_b1, qcat_i, qcat_r, qcat_n, qcat_l, qroom_0, qroom_c, List.map_cons, List.map_nil, List.sum_cons, List.sum_nil, Nat.reduceAdd, Nat.reduceLT, Nat.reduceLeDiff, Nat.reduceEqDiff, Nat.reduceSub, decide_true, true_and, and_true, and_self, if_true, if_false, Option.toList_some, Option.toList_none, List.cons_append, List.nil_append, qput_mk, qiast_mk, qup_at, exF, qnF0, qnF1, qnF2, qnF3, qnF4, qnF5, qnF6, qnF7, qnF8, qnF9, qnF10, qnF11]
  exact hend
set_option maxRecDepth 100000 in
set_option maxHeartbeats 8000000 in
theorem law_5 {f : Nat → qC} {xs : Nat → Int32} (h0 : f 0 = .inl (0, 7, .inl xs)) : ∃ h2, qEv 1000 3 qk_116 423 [some (.ref 0), some (.ref 16), some (.ref 55), some (.int 0)] [] (hF f, 97, 78870) (some (.int 1), h2) ∧ h2.2 = (97, 78870) := by
  have hp : ∃ v, prI 26 77 [.int (xs 1), .int (xs 2)] (991 + 9) 78870 f v := pa_shadow
  obtain ⟨v, h1, e1, h2, e2, e3⟩ := hp
  have e1 : qMC 1000 26 [.ref 16, .int (xs 1), .int (xs 2)] (hF f, 97, 78870) (some (.int v), h1) := e1
  have e2 : qMC 1000 77 [.ref 55, .int (xs 1), .int (xs 2)] h1 (some (.int v), h2) := e2
  have k1 := e1.keep
  have k2 := e2.keep
  have g0 : hF f 0 = .inl (0, 7, .inl xs) := (hF_lo (by omega)).trans h0
  have g1 : h1.1 0 = .inl (0, 7, .inl xs) := (k1.2.2.2 (show 16 ≤ 97 by decide) 0 (by omega)).trans g0
  have g2 : h2.1 0 = .inl (0, 7, .inl xs) := (k2.2.2.2 (Nat.le_trans (show 16 ≤ 97 by decide) k1.1) 0 (by omega)).trans g1
  have hm1 : (55 < h1.2.1) = True := eq_true (Nat.lt_of_lt_of_le (show 55 < 97 by decide) k1.1)
  have hm2 : (∃ F, h1.1 55 = .inr (11, F)) = True := eq_true (k1.obj (show 55 < 97 by decide) (hF_55 (f := f)))
  have hend := law_last g2
  refine ⟨h2, ?_, e3⟩
  obtain ⟨h1f, h1n, h1s⟩ := h1
  simp only [e116_423, e116_424, e116_425, e116_426, e116_427, e116_428, e116_429, e116_430, e116_431, e116_432, e116_433, e116_434, e116_437, e116_438, e116_439, e116_440, e116_441, e116_442, e116_443, e116_444, e116_445, e116_446, e116_447, e116_448, e116_451, e116_454, e116_455, hF_16, hF_55, ald_s g0 (i := 1) (j := 1) (by decide) (by decide), ald_s g0 (i := 2) (j := 2) (by decide) (by decide), ald_s g0 (i := 3) (j := 3) (by decide) (by decide), ald_s g0 (i := 4) (j := 4) (by decide) (by decide), ald_s g0 (i := 5) (j := 5) (by decide) (by decide), ald_s g0 (i := 6) (j := 6) (by decide) (by decide), ald_s g1 (i := 1) (j := 1) (by decide) (by decide), ald_s g1 (i := 2) (j := 2) (by decide) (by decide), ald_s g1 (i := 3) (j := 3) (by decide) (by decide), ald_s g1 (i := 4) (j := 4) (by decide) (by decide), ald_s g1 (i := 5) (j := 5) (by decide) (by decide), ald_s g1 (i := 6) (j := 6) (by decide) (by decide), show (0 : Int32) + 1 = 1 from rfl, show (0 : Int32) + 2 = 2 from rfl, show (0 : Int32) + 3 = 3 from rfl, show (0 : Int32) + 4 = 4 from rfl, show (0 : Int32) + 5 = 5 from rfl, show (0 : Int32) + 6 = 6 from rfl, qMC_det e1, qMC_det e2, hm1, hm2, lg_self, eq_self, ↓reduceIte, qg_7, qg_8, qg_9, qg_10, qg_11, not_true_eq_false, not_false_eq_true, Nat.reduceBEq, Bool.false_eq_true, Nat.reduceMul, qg_0, qg_1, qg_2, qg_3, qg_4, qg_5, qg_6, ex1, ex3, ex4, qfit_i, qfit_l, qfit_r, qfit_n, qfit_b0, qfit_b1, qcat_i, qcat_r, qcat_n, qcat_l, qroom_0, qroom_c, List.map_cons, List.map_nil, List.sum_cons, List.sum_nil, Nat.reduceAdd, Nat.reduceLT, Nat.reduceLeDiff, Nat.reduceEqDiff, Nat.reduceSub, decide_true, true_and, and_true, and_self, if_true, if_false, Option.toList_some, Option.toList_none, List.cons_append, List.nil_append, qput_mk, qiast_mk, qup_at, exF, qnF0, qnF1, qnF2, qnF3, qnF4, qnF5, qnF6, qnF7, qnF8, qnF9, qnF10, qnF11]
  exact hend
set_option maxRecDepth 100000 in
set_option maxHeartbeats 8000000 in
theorem law_6 {f : Nat → qC} {xs : Nat → Int32} (h0 : f 0 = .inl (0, 7, .inl xs)) : ∃ h2, qEv 1000 3 qk_116 456 [some (.ref 0), some (.ref 16), some (.ref 55), some (.int 0)] [] (hF f, 97, 78870) (some (.int 1), h2) ∧ h2.2 = (97, 78870) := by
  have hp : ∃ v, prI 27 78 [.int (xs 1), .int (xs 2), .int (xs 3)] (991 + 9) 78870 f v := pa_raise
  obtain ⟨v, h1, e1, h2, e2, e3⟩ := hp
  have e1 : qMC 1000 27 [.ref 16, .int (xs 1), .int (xs 2), .int (xs 3)] (hF f, 97, 78870) (some (.int v), h1) := e1
  have e2 : qMC 1000 78 [.ref 55, .int (xs 1), .int (xs 2), .int (xs 3)] h1 (some (.int v), h2) := e2
  have k1 := e1.keep
  have k2 := e2.keep
  have g0 : hF f 0 = .inl (0, 7, .inl xs) := (hF_lo (by omega)).trans h0
  have g1 : h1.1 0 = .inl (0, 7, .inl xs) := (k1.2.2.2 (show 16 ≤ 97 by decide) 0 (by omega)).trans g0
  have g2 : h2.1 0 = .inl (0, 7, .inl xs) := (k2.2.2.2 (Nat.le_trans (show 16 ≤ 97 by decide) k1.1) 0 (by omega)).trans g1
  have hm1 : (55 < h1.2.1) = True := eq_true (Nat.lt_of_lt_of_le (show 55 < 97 by decide) k1.1)
  have hm2 : (∃ F, h1.1 55 = .inr (11, F)) = True := eq_true (k1.obj (show 55 < 97 by decide) (hF_55 (f := f)))
  have hend := law_last g2
  refine ⟨h2, ?_, e3⟩
  obtain ⟨h1f, h1n, h1s⟩ := h1
  simp only [e116_456, e116_457, e116_458, e116_459, e116_460, e116_461, e116_462, e116_463, e116_464, e116_465, e116_466, e116_467, e116_468, e116_469, e116_470, e116_471, e116_472, e116_475, e116_476, e116_477, e116_478, e116_479, e116_480, e116_481, e116_482, e116_483, e116_484, e116_485, e116_486, e116_487, e116_488, e116_489, e116_490, e116_491, e116_494, e116_497, e116_498, hF_16, hF_55, ald_s g0 (i := 1) (j := 1) (by decide) (by decide), ald_s g0 (i := 2) (j := 2) (by decide) (by decide), ald_s g0 (i := 3) (j := 3) (by decide) (by decide), ald_s g0 (i := 4) (j := 4) (by decide) (by decide), ald_s g0 (i := 5) (j := 5) (by decide) (by decide), ald_s g0 (i := 6) (j := 6) (by decide) (by decide), ald_s g1 (i := 1) (j := 1) (by decide) (by decide), ald_s g1 (i := 2) (j := 2) (by decide) (by decide), ald_s g1 (i := 3) (j := 3) (by decide) (by decide), ald_s g1 (i := 4) (j := 4) (by decide) (by decide), ald_s g1 (i := 5) (j := 5) (by decide) (by decide), ald_s g1 (i := 6) (j := 6) (by decide) (by decide), show (0 : Int32) + 1 = 1 from rfl, show (0 : Int32) + 2 = 2 from rfl, show (0 : Int32) + 3 = 3 from rfl, show (0 : Int32) + 4 = 4 from rfl, show (0 : Int32) + 5 = 5 from rfl, show (0 : Int32) + 6 = 6 from rfl, qMC_det e1, qMC_det e2, hm1, hm2, lg_self, eq_self, ↓reduceIte, qg_7, qg_8, qg_9, qg_10, qg_11, not_true_eq_false, not_false_eq_true, Nat.reduceBEq, Bool.false_eq_true, Nat.reduceMul, qg_0, qg_1, qg_2, qg_3, qg_4, qg_5, qg_6, ex1, ex3, ex4, qfit_i, qfit_l, qfit_r, qfit_n, qfit_b0, qfit_b1, qcat_i, qcat_r, qcat_n, qcat_l, qroom_0, qroom_c, List.map_cons, List.map_nil, List.sum_cons, List.sum_nil, Nat.reduceAdd, Nat.reduceLT, Nat.reduceLeDiff, Nat.reduceEqDiff, Nat.reduceSub, decide_true, true_and, and_true, and_self, if_true, if_false, Option.toList_some, Option.toList_none, List.cons_append, List.nil_append, qput_mk, qiast_mk, qup_at, exF, qnF0, qnF1, qnF2, qnF3, qnF4, qnF5, qnF6, qnF7, qnF8, qnF9, qnF10, qnF11]
  exact hend
set_option maxRecDepth 100000 in
set_option maxHeartbeats 8000000 in
theorem law_7 {f : Nat → qC} {xs : Nat → Int32} (h0 : f 0 = .inl (0, 7, .inl xs)) : ∃ h2, qEv 1000 3 qk_116 499 [some (.ref 0), some (.ref 16), some (.ref 55), some (.int 0)] [] (hF f, 97, 78870) (some (.int 1), h2) ∧ h2.2 = (97, 78870) := by
  have hp : ∃ v, prI 28 79 [.int (xs 1), .int (xs 2)] (991 + 9) 78870 f v := pa_product
  obtain ⟨v, h1, e1, h2, e2, e3⟩ := hp
  have e1 : qMC 1000 28 [.ref 16, .int (xs 1), .int (xs 2)] (hF f, 97, 78870) (some (.int v), h1) := e1
  have e2 : qMC 1000 79 [.ref 55, .int (xs 1), .int (xs 2)] h1 (some (.int v), h2) := e2
  have k1 := e1.keep
  have k2 := e2.keep
  have g0 : hF f 0 = .inl (0, 7, .inl xs) := (hF_lo (by omega)).trans h0
  have g1 : h1.1 0 = .inl (0, 7, .inl xs) := (k1.2.2.2 (show 16 ≤ 97 by decide) 0 (by omega)).trans g0
  have g2 : h2.1 0 = .inl (0, 7, .inl xs) := (k2.2.2.2 (Nat.le_trans (show 16 ≤ 97 by decide) k1.1) 0 (by omega)).trans g1
  have hm1 : (55 < h1.2.1) = True := eq_true (Nat.lt_of_lt_of_le (show 55 < 97 by decide) k1.1)
  have hm2 : (∃ F, h1.1 55 = .inr (11, F)) = True := eq_true (k1.obj (show 55 < 97 by decide) (hF_55 (f := f)))
  have hend := law_last g2
  refine ⟨h2, ?_, e3⟩
  obtain ⟨h1f, h1n, h1s⟩ := h1
  simp only [e116_499, e116_500, e116_501, e116_502, e116_503, e116_504, e116_505, e116_506, e116_507, e116_508, e116_509, e116_510, e116_513, e116_514, e116_515, e116_516, e116_517, e116_518, e116_519, e116_520, e116_521, e116_522, e116_523, e116_524, e116_527, e116_530, e116_531, hF_16, hF_55, ald_s g0 (i := 1) (j := 1) (by decide) (by decide), ald_s g0 (i := 2) (j := 2) (by decide) (by decide), ald_s g0 (i := 3) (j := 3) (by decide) (by decide), ald_s g0 (i := 4) (j := 4) (by decide) (by decide), ald_s g0 (i := 5) (j := 5) (by decide) (by decide), ald_s g0 (i := 6) (j := 6) (by decide) (by decide), ald_s g1 (i := 1) (j := 1) (by decide) (by decide), ald_s g1 (i := 2) (j := 2) (by decide) (by decide), ald_s g1 (i := 3) (j := 3) (by decide) (by decide), ald_s g1 (i := 4) (j := 4) (by decide) (by decide), ald_s g1 (i := 5) (j := 5) (by decide) (by decide), ald_s g1 (i := 6) (j := 6) (by decide) (by decide), show (0 : Int32) + 1 = 1 from rfl, show (0 : Int32) + 2 = 2 from rfl, show (0 : Int32) + 3 = 3 from rfl, show (0 : Int32) + 4 = 4 from rfl, show (0 : Int32) + 5 = 5 from rfl, show (0 : Int32) + 6 = 6 from rfl, qMC_det e1, qMC_det e2, hm1, hm2, lg_self, eq_self, ↓reduceIte, qg_7, qg_8, qg_9, qg_10, qg_11, not_true_eq_false, not_false_eq_true, Nat.reduceBEq, Bool.false_eq_true, Nat.reduceMul, qg_0, qg_1, qg_2, qg_3, qg_4, qg_5, qg_6, ex1, ex3, ex4, qfit_i, qfit_l, qfit_r, qfit_n, qfit_b0, qfit_b1, qcat_i, qcat_r, qcat_n, qcat_l, qroom_0, qroom_c, List.map_cons, List.map_nil, List.sum_cons, List.sum_nil, Nat.reduceAdd, Nat.reduceLT, Nat.reduceLeDiff, Nat.reduceEqDiff, Nat.reduceSub, decide_true, true_and, and_true, and_self, if_true, if_false, Option.toList_some, Option.toList_none, List.cons_append, List.nil_append, qput_mk, qiast_mk, qup_at, exF, qnF0, qnF1, qnF2, qnF3, qnF4, qnF5, qnF6, qnF7, qnF8, qnF9, qnF10, qnF11]
  exact hend
set_option maxRecDepth 100000 in
set_option maxHeartbeats 8000000 in
theorem law_8 {f : Nat → qC} {xs : Nat → Int32} (h0 : f 0 = .inl (0, 7, .inl xs)) : ∃ h2, qEv 1000 3 qk_116 532 [some (.ref 0), some (.ref 16), some (.ref 55), some (.int 0)] [] (hF f, 97, 78870) (some (.int 1), h2) ∧ h2.2 = (97, 78870) := by
  have hp : ∃ v, prI 29 80 [.int (xs 1), .int (xs 2)] (991 + 9) 78870 f v := pa_both
  obtain ⟨v, h1, e1, h2, e2, e3⟩ := hp
  have e1 : qMC 1000 29 [.ref 16, .int (xs 1), .int (xs 2)] (hF f, 97, 78870) (some (.int v), h1) := e1
  have e2 : qMC 1000 80 [.ref 55, .int (xs 1), .int (xs 2)] h1 (some (.int v), h2) := e2
  have k1 := e1.keep
  have k2 := e2.keep
  have g0 : hF f 0 = .inl (0, 7, .inl xs) := (hF_lo (by omega)).trans h0
  have g1 : h1.1 0 = .inl (0, 7, .inl xs) := (k1.2.2.2 (show 16 ≤ 97 by decide) 0 (by omega)).trans g0
  have g2 : h2.1 0 = .inl (0, 7, .inl xs) := (k2.2.2.2 (Nat.le_trans (show 16 ≤ 97 by decide) k1.1) 0 (by omega)).trans g1
  have hm1 : (55 < h1.2.1) = True := eq_true (Nat.lt_of_lt_of_le (show 55 < 97 by decide) k1.1)
  have hm2 : (∃ F, h1.1 55 = .inr (11, F)) = True := eq_true (k1.obj (show 55 < 97 by decide) (hF_55 (f := f)))
  have hend := law_last g2
  refine ⟨h2, ?_, e3⟩
  obtain ⟨h1f, h1n, h1s⟩ := h1
  simp only [e116_532, e116_533, e116_534, e116_535, e116_536, e116_537, e116_538, e116_539, e116_540, e116_541, e116_542, e116_543, e116_546, e116_547, e116_548, e116_549, e116_550, e116_551, e116_552, e116_553, e116_554, e116_555, e116_556, e116_557, e116_560, e116_563, e116_564, hF_16, hF_55, ald_s g0 (i := 1) (j := 1) (by decide) (by decide), ald_s g0 (i := 2) (j := 2) (by decide) (by decide), ald_s g0 (i := 3) (j := 3) (by decide) (by decide), ald_s g0 (i := 4) (j := 4) (by decide) (by decide), ald_s g0 (i := 5) (j := 5) (by decide) (by decide), ald_s g0 (i := 6) (j := 6) (by decide) (by decide), ald_s g1 (i := 1) (j := 1) (by decide) (by decide), ald_s g1 (i := 2) (j := 2) (by decide) (by decide), ald_s g1 (i := 3) (j := 3) (by decide) (by decide), ald_s g1 (i := 4) (j := 4) (by decide) (by decide), ald_s g1 (i := 5) (j := 5) (by decide) (by decide), ald_s g1 (i := 6) (j := 6) (by decide) (by decide), show (0 : Int32) + 1 = 1 from rfl, show (0 : Int32) + 2 = 2 from rfl, show (0 : Int32) + 3 = 3 from rfl, show (0 : Int32) + 4 = 4 from rfl, show (0 : Int32) + 5 = 5 from rfl, show (0 : Int32) + 6 = 6 from rfl, qMC_det e1, qMC_det e2, hm1, hm2, lg_self, eq_self, ↓reduceIte, qg_7, qg_8, qg_9, qg_10, qg_11, not_true_eq_false, not_false_eq_true, Nat.reduceBEq, Bool.false_eq_true, Nat.reduceMul, qg_0, qg_1, qg_2, qg_3, qg_4, qg_5, qg_6, ex1, ex3, ex4, qfit_i, qfit_l, qfit_r, qfit_n, qfit_b0, qfit_b1, qcat_i, qcat_r, qcat_n, qcat_l, qroom_0, qroom_c, List.map_cons, List.map_nil, List.sum_cons, List.sum_nil, Nat.reduceAdd, Nat.reduceLT, Nat.reduceLeDiff, Nat.reduceEqDiff, Nat.reduceSub, decide_true, true_and, and_true, and_self, if_true, if_false, Option.toList_some, Option.toList_none, List.cons_append, List.nil_append, qput_mk, qiast_mk, qup_at, exF, qnF0, qnF1, qnF2, qnF3, qnF4, qnF5, qnF6, qnF7, qnF8, qnF9, qnF10, qnF11]
  exact hend
set_option maxRecDepth 100000 in
set_option maxHeartbeats 8000000 in
theorem law_9 {f : Nat → qC} {xs : Nat → Int32} (h0 : f 0 = .inl (0, 7, .inl xs)) : ∃ h2, qEv 1000 3 qk_116 565 [some (.ref 0), some (.ref 16), some (.ref 55), some (.int 0)] [] (hF f, 97, 78870) (some (.int 1), h2) ∧ h2.2 = (97, 78870) := by
  have hp : ∃ v, prI 30 81 [.int (xs 1), .int (xs 2)] (991 + 9) 78870 f v := pa_about
  obtain ⟨v, h1, e1, h2, e2, e3⟩ := hp
  have e1 : qMC 1000 30 [.ref 16, .int (xs 1), .int (xs 2)] (hF f, 97, 78870) (some (.int v), h1) := e1
  have e2 : qMC 1000 81 [.ref 55, .int (xs 1), .int (xs 2)] h1 (some (.int v), h2) := e2
  have k1 := e1.keep
  have k2 := e2.keep
  have g0 : hF f 0 = .inl (0, 7, .inl xs) := (hF_lo (by omega)).trans h0
  have g1 : h1.1 0 = .inl (0, 7, .inl xs) := (k1.2.2.2 (show 16 ≤ 97 by decide) 0 (by omega)).trans g0
  have g2 : h2.1 0 = .inl (0, 7, .inl xs) := (k2.2.2.2 (Nat.le_trans (show 16 ≤ 97 by decide) k1.1) 0 (by omega)).trans g1
  have hm1 : (55 < h1.2.1) = True := eq_true (Nat.lt_of_lt_of_le (show 55 < 97 by decide) k1.1)
  have hm2 : (∃ F, h1.1 55 = .inr (11, F)) = True := eq_true (k1.obj (show 55 < 97 by decide) (hF_55 (f := f)))
  have hend := law_last g2
  refine ⟨h2, ?_, e3⟩
  obtain ⟨h1f, h1n, h1s⟩ := h1
  simp only [e116_565, e116_566, e116_567, e116_568, e116_569, e116_570, e116_571, e116_572, e116_573, e116_574, e116_575, e116_576, e116_579, e116_580, e116_581, e116_582, e116_583, e116_584, e116_585, e116_586, e116_587, e116_588, e116_589, e116_590, e116_593, e116_596, e116_597, hF_16, hF_55, ald_s g0 (i := 1) (j := 1) (by decide) (by decide), ald_s g0 (i := 2) (j := 2) (by decide) (by decide), ald_s g0 (i := 3) (j := 3) (by decide) (by decide), ald_s g0 (i := 4) (j := 4) (by decide) (by decide), ald_s g0 (i := 5) (j := 5) (by decide) (by decide), ald_s g0 (i := 6) (j := 6) (by decide) (by decide), ald_s g1 (i := 1) (j := 1) (by decide) (by decide), ald_s g1 (i := 2) (j := 2) (by decide) (by decide), ald_s g1 (i := 3) (j := 3) (by decide) (by decide), ald_s g1 (i := 4) (j := 4) (by decide) (by decide), ald_s g1 (i := 5) (j := 5) (by decide) (by decide), ald_s g1 (i := 6) (j := 6) (by decide) (by decide), show (0 : Int32) + 1 = 1 from rfl, show (0 : Int32) + 2 = 2 from rfl, show (0 : Int32) + 3 = 3 from rfl, show (0 : Int32) + 4 = 4 from rfl, show (0 : Int32) + 5 = 5 from rfl, show (0 : Int32) + 6 = 6 from rfl, qMC_det e1, qMC_det e2, hm1, hm2, lg_self, eq_self, ↓reduceIte, qg_7, qg_8, qg_9, qg_10, qg_11, not_true_eq_false, not_false_eq_true, Nat.reduceBEq, Bool.false_eq_true, Nat.reduceMul, qg_0, qg_1, qg_2, qg_3, qg_4, qg_5, qg_6, ex1, ex3, ex4, qfit_i, qfit_l, qfit_r, qfit_n, qfit_b0, qfit_b1, qcat_i, qcat_r, qcat_n, qcat_l, qroom_0, qroom_c, List.map_cons, List.map_nil, List.sum_cons, List.sum_nil, Nat.reduceAdd, Nat.reduceLT, Nat.reduceLeDiff, Nat.reduceEqDiff, Nat.reduceSub, decide_true, true_and, and_true, and_self, if_true, if_false, Option.toList_some, Option.toList_none, List.cons_append, List.nil_append, qput_mk, qiast_mk, qup_at, exF, qnF0, qnF1, qnF2, qnF3, qnF4, qnF5, qnF6, qnF7, qnF8, qnF9, qnF10, qnF11]
  exact hend
set_option maxRecDepth 100000 in
set_option maxHeartbeats 8000000 in
theorem law_10 {f : Nat → qC} {xs : Nat → Int32} (h0 : f 0 = .inl (0, 7, .inl xs)) : ∃ h2, qEv 1000 3 qk_116 598 [some (.ref 0), some (.ref 16), some (.ref 55), some (.int 0)] [] (hF f, 97, 78870) (some (.int 1), h2) ∧ h2.2 = (97, 78870) := by
  have hp : ∃ v, prI 31 83 [.int (xs 1), .int (xs 2), .int (xs 3)] (991 + 9) 78870 f v := pa_corner
  obtain ⟨v, h1, e1, h2, e2, e3⟩ := hp
  have e1 : qMC 1000 31 [.ref 16, .int (xs 1), .int (xs 2), .int (xs 3)] (hF f, 97, 78870) (some (.int v), h1) := e1
  have e2 : qMC 1000 83 [.ref 55, .int (xs 1), .int (xs 2), .int (xs 3)] h1 (some (.int v), h2) := e2
  have k1 := e1.keep
  have k2 := e2.keep
  have g0 : hF f 0 = .inl (0, 7, .inl xs) := (hF_lo (by omega)).trans h0
  have g1 : h1.1 0 = .inl (0, 7, .inl xs) := (k1.2.2.2 (show 16 ≤ 97 by decide) 0 (by omega)).trans g0
  have g2 : h2.1 0 = .inl (0, 7, .inl xs) := (k2.2.2.2 (Nat.le_trans (show 16 ≤ 97 by decide) k1.1) 0 (by omega)).trans g1
  have hm1 : (55 < h1.2.1) = True := eq_true (Nat.lt_of_lt_of_le (show 55 < 97 by decide) k1.1)
  have hm2 : (∃ F, h1.1 55 = .inr (11, F)) = True := eq_true (k1.obj (show 55 < 97 by decide) (hF_55 (f := f)))
  have hend := law_last g2
  refine ⟨h2, ?_, e3⟩
  obtain ⟨h1f, h1n, h1s⟩ := h1
  simp only [e116_598, e116_599, e116_600, e116_601, e116_602, e116_603, e116_604, e116_605, e116_606, e116_607, e116_608, e116_609, e116_610, e116_611, e116_612, e116_613, e116_614, e116_617, e116_618, e116_619, e116_620, e116_621, e116_622, e116_623, e116_624, e116_625, e116_626, e116_627, e116_628, e116_629, e116_630, e116_631, e116_632, e116_633, e116_636, e116_639, e116_640, hF_16, hF_55, ald_s g0 (i := 1) (j := 1) (by decide) (by decide), ald_s g0 (i := 2) (j := 2) (by decide) (by decide), ald_s g0 (i := 3) (j := 3) (by decide) (by decide), ald_s g0 (i := 4) (j := 4) (by decide) (by decide), ald_s g0 (i := 5) (j := 5) (by decide) (by decide), ald_s g0 (i := 6) (j := 6) (by decide) (by decide), ald_s g1 (i := 1) (j := 1) (by decide) (by decide), ald_s g1 (i := 2) (j := 2) (by decide) (by decide), ald_s g1 (i := 3) (j := 3) (by decide) (by decide), ald_s g1 (i := 4) (j := 4) (by decide) (by decide), ald_s g1 (i := 5) (j := 5) (by decide) (by decide), ald_s g1 (i := 6) (j := 6) (by decide) (by decide), show (0 : Int32) + 1 = 1 from rfl, show (0 : Int32) + 2 = 2 from rfl, show (0 : Int32) + 3 = 3 from rfl, show (0 : Int32) + 4 = 4 from rfl, show (0 : Int32) + 5 = 5 from rfl, show (0 : Int32) + 6 = 6 from rfl, qMC_det e1, qMC_det e2, hm1, hm2, lg_self, eq_self, ↓reduceIte, qg_7, qg_8, qg_9, qg_10, qg_11, not_true_eq_false, not_false_eq_true, Nat.reduceBEq, Bool.false_eq_true, Nat.reduceMul, qg_0, qg_1, qg_2, qg_3, qg_4, qg_5, qg_6, ex1, ex3, ex4, qfit_i, qfit_l, qfit_r, qfit_n, qfit_b0, qfit_b1, qcat_i, qcat_r, qcat_n, qcat_l, qroom_0, qroom_c, List.map_cons, List.map_nil, List.sum_cons, List.sum_nil, Nat.reduceAdd, Nat.reduceLT, Nat.reduceLeDiff, Nat.reduceEqDiff, Nat.reduceSub, decide_true, true_and, and_true, and_self, if_true, if_false, Option.toList_some, Option.toList_none, List.cons_append, List.nil_append, qput_mk, qiast_mk, qup_at, exF, qnF0, qnF1, qnF2, qnF3, qnF4, qnF5, qnF6, qnF7, qnF8, qnF9, qnF10, qnF11]
  exact hend
set_option maxRecDepth 100000 in
set_option maxHeartbeats 8000000 in
theorem law_11 {f : Nat → qC} {xs : Nat → Int32} (h0 : f 0 = .inl (0, 7, .inl xs)) : ∃ h2, qEv 1000 3 qk_116 641 [some (.ref 0), some (.ref 16), some (.ref 55), some (.int 0)] [] (hF f, 97, 78870) (some (.int 1), h2) ∧ h2.2 = (97, 78870) := by
  have hp : ∃ v, prI 32 84 [.int (xs 1)] (991 + 9) 78870 f v := pa_count
  obtain ⟨v, h1, e1, h2, e2, e3⟩ := hp
  have e1 : qMC 1000 32 [.ref 16, .int (xs 1)] (hF f, 97, 78870) (some (.int v), h1) := e1
  have e2 : qMC 1000 84 [.ref 55, .int (xs 1)] h1 (some (.int v), h2) := e2
  have k1 := e1.keep
  have k2 := e2.keep
  have g0 : hF f 0 = .inl (0, 7, .inl xs) := (hF_lo (by omega)).trans h0
  have g1 : h1.1 0 = .inl (0, 7, .inl xs) := (k1.2.2.2 (show 16 ≤ 97 by decide) 0 (by omega)).trans g0
  have g2 : h2.1 0 = .inl (0, 7, .inl xs) := (k2.2.2.2 (Nat.le_trans (show 16 ≤ 97 by decide) k1.1) 0 (by omega)).trans g1
  have hm1 : (55 < h1.2.1) = True := eq_true (Nat.lt_of_lt_of_le (show 55 < 97 by decide) k1.1)
  have hm2 : (∃ F, h1.1 55 = .inr (11, F)) = True := eq_true (k1.obj (show 55 < 97 by decide) (hF_55 (f := f)))
  have hend := law_last g2
  refine ⟨h2, ?_, e3⟩
  obtain ⟨h1f, h1n, h1s⟩ := h1
  simp only [e116_641, e116_642, e116_643, e116_644, e116_645, e116_646, e116_647, e116_650, e116_651, e116_652, e116_653, e116_654, e116_655, e116_656, e116_659, e116_662, e116_663, hF_16, hF_55, ald_s g0 (i := 1) (j := 1) (by decide) (by decide), ald_s g0 (i := 2) (j := 2) (by decide) (by decide), ald_s g0 (i := 3) (j := 3) (by decide) (by decide), ald_s g0 (i := 4) (j := 4) (by decide) (by decide), ald_s g0 (i := 5) (j := 5) (by decide) (by decide), ald_s g0 (i := 6) (j := 6) (by decide) (by decide), ald_s g1 (i := 1) (j := 1) (by decide) (by decide), ald_s g1 (i := 2) (j := 2) (by decide) (by decide), ald_s g1 (i := 3) (j := 3) (by decide) (by decide), ald_s g1 (i := 4) (j := 4) (by decide) (by decide), ald_s g1 (i := 5) (j := 5) (by decide) (by decide), ald_s g1 (i := 6) (j := 6) (by decide) (by decide), show (0 : Int32) + 1 = 1 from rfl, show (0 : Int32) + 2 = 2 from rfl, show (0 : Int32) + 3 = 3 from rfl, show (0 : Int32) + 4 = 4 from rfl, show (0 : Int32) + 5 = 5 from rfl, show (0 : Int32) + 6 = 6 from rfl, qMC_det e1, qMC_det e2, hm1, hm2, lg_self, eq_self, ↓reduceIte, qg_7, qg_8, qg_9, qg_10, qg_11, not_true_eq_false, not_false_eq_true, Nat.reduceBEq, Bool.false_eq_true, Nat.reduceMul, qg_0, qg_1, qg_2, qg_3, qg_4, qg_5, qg_6, ex1, ex3, ex4, qfit_i, qfit_l, qfit_r, qfit_n, qfit_b0, qfit_b1, qcat_i, qcat_r, qcat_n, qcat_l, qroom_0, qroom_c, List.map_cons, List.map_nil, List.sum_cons, List.sum_nil, Nat.reduceAdd, Nat.reduceLT, Nat.reduceLeDiff, Nat.reduceEqDiff, Nat.reduceSub, decide_true, true_and, and_true, and_self, if_true, if_false, Option.toList_some, Option.toList_none, List.cons_append, List.nil_append, qput_mk, qiast_mk, qup_at, exF, qnF0, qnF1, qnF2, qnF3, qnF4, qnF5, qnF6, qnF7, qnF8, qnF9, qnF10, qnF11]
  exact hend
set_option maxRecDepth 100000 in
set_option maxHeartbeats 8000000 in
theorem law_12 {f : Nat → qC} {xs : Nat → Int32} (h0 : f 0 = .inl (0, 7, .inl xs)) : ∃ h2, qEv 1000 3 qk_116 664 [some (.ref 0), some (.ref 16), some (.ref 55), some (.int 0)] [] (hF f, 97, 78870) (some (.int 1), h2) ∧ h2.2 = (97, 78870) := by
  have hp : ∃ v, prI 33 85 [.int (xs 1), .int (xs 2)] (991 + 9) 78870 f v := pa_faces
  obtain ⟨v, h1, e1, h2, e2, e3⟩ := hp
  have e1 : qMC 1000 33 [.ref 16, .int (xs 1), .int (xs 2)] (hF f, 97, 78870) (some (.int v), h1) := e1
  have e2 : qMC 1000 85 [.ref 55, .int (xs 1), .int (xs 2)] h1 (some (.int v), h2) := e2
  have k1 := e1.keep
  have k2 := e2.keep
  have g0 : hF f 0 = .inl (0, 7, .inl xs) := (hF_lo (by omega)).trans h0
  have g1 : h1.1 0 = .inl (0, 7, .inl xs) := (k1.2.2.2 (show 16 ≤ 97 by decide) 0 (by omega)).trans g0
  have g2 : h2.1 0 = .inl (0, 7, .inl xs) := (k2.2.2.2 (Nat.le_trans (show 16 ≤ 97 by decide) k1.1) 0 (by omega)).trans g1
  have hm1 : (55 < h1.2.1) = True := eq_true (Nat.lt_of_lt_of_le (show 55 < 97 by decide) k1.1)
  have hm2 : (∃ F, h1.1 55 = .inr (11, F)) = True := eq_true (k1.obj (show 55 < 97 by decide) (hF_55 (f := f)))
  have hend := law_last g2
  refine ⟨h2, ?_, e3⟩
  obtain ⟨h1f, h1n, h1s⟩ := h1
  simp only [e116_664, e116_665, e116_666, e116_667, e116_668, e116_669, e116_670, e116_671, e116_672, e116_673, e116_674, e116_675, e116_678, e116_679, e116_680, e116_681, e116_682, e116_683, e116_684, e116_685, e116_686, e116_687, e116_688, e116_689, e116_692, e116_695, e116_696, hF_16, hF_55, ald_s g0 (i := 1) (j := 1) (by decide) (by decide), ald_s g0 (i := 2) (j := 2) (by decide) (by decide), ald_s g0 (i := 3) (j := 3) (by decide) (by decide), ald_s g0 (i := 4) (j := 4) (by decide) (by decide), ald_s g0 (i := 5) (j := 5) (by decide) (by decide), ald_s g0 (i := 6) (j := 6) (by decide) (by decide), ald_s g1 (i := 1) (j := 1) (by decide) (by decide), ald_s g1 (i := 2) (j := 2) (by decide) (by decide), ald_s g1 (i := 3) (j := 3) (by decide) (by decide), ald_s g1 (i := 4) (j := 4) (by decide) (by decide), ald_s g1 (i := 5) (j := 5) (by decide) (by decide), ald_s g1 (i := 6) (j := 6) (by decide) (by decide), show (0 : Int32) + 1 = 1 from rfl, show (0 : Int32) + 2 = 2 from rfl, show (0 : Int32) + 3 = 3 from rfl, show (0 : Int32) + 4 = 4 from rfl, show (0 : Int32) + 5 = 5 from rfl, show (0 : Int32) + 6 = 6 from rfl, qMC_det e1, qMC_det e2, hm1, hm2, lg_self, eq_self, ↓reduceIte, qg_7, qg_8, qg_9, qg_10, qg_11, not_true_eq_false, not_false_eq_true, Nat.reduceBEq, Bool.false_eq_true, Nat.reduceMul, qg_0, qg_1, qg_2, qg_3, qg_4, qg_5, qg_6, ex1, ex3, ex4, qfit_i, qfit_l, qfit_r, qfit_n, qfit_b0, qfit_b1, qcat_i, qcat_r, qcat_n, qcat_l, qroom_0, qroom_c, List.map_cons, List.map_nil, List.sum_cons, List.sum_nil, Nat.reduceAdd, Nat.reduceLT, Nat.reduceLeDiff, Nat.reduceEqDiff, Nat.reduceSub, decide_true, true_and, and_true, and_self, if_true, if_false, Option.toList_some, Option.toList_none, List.cons_append, List.nil_append, qput_mk, qiast_mk, qup_at, exF, qnF0, qnF1, qnF2, qnF3, qnF4, qnF5, qnF6, qnF7, qnF8, qnF9, qnF10, qnF11]
  exact hend
set_option maxRecDepth 100000 in
set_option maxHeartbeats 8000000 in
theorem law_13 {f : Nat → qC} {xs : Nat → Int32} (h0 : f 0 = .inl (0, 7, .inl xs)) : ∃ h2, qEv 1000 3 qk_116 697 [some (.ref 0), some (.ref 16), some (.ref 55), some (.int 0)] [] (hF f, 97, 78870) (some (.int 1), h2) ∧ h2.2 = (97, 78870) := by
  have hp : ∃ v, prI 34 86 [.int (xs 1), .int (xs 2), .int (xs 3)] (991 + 9) 78870 f v := pa_face
  obtain ⟨v, h1, e1, h2, e2, e3⟩ := hp
  have e1 : qMC 1000 34 [.ref 16, .int (xs 1), .int (xs 2), .int (xs 3)] (hF f, 97, 78870) (some (.int v), h1) := e1
  have e2 : qMC 1000 86 [.ref 55, .int (xs 1), .int (xs 2), .int (xs 3)] h1 (some (.int v), h2) := e2
  have k1 := e1.keep
  have k2 := e2.keep
  have g0 : hF f 0 = .inl (0, 7, .inl xs) := (hF_lo (by omega)).trans h0
  have g1 : h1.1 0 = .inl (0, 7, .inl xs) := (k1.2.2.2 (show 16 ≤ 97 by decide) 0 (by omega)).trans g0
  have g2 : h2.1 0 = .inl (0, 7, .inl xs) := (k2.2.2.2 (Nat.le_trans (show 16 ≤ 97 by decide) k1.1) 0 (by omega)).trans g1
  have hm1 : (55 < h1.2.1) = True := eq_true (Nat.lt_of_lt_of_le (show 55 < 97 by decide) k1.1)
  have hm2 : (∃ F, h1.1 55 = .inr (11, F)) = True := eq_true (k1.obj (show 55 < 97 by decide) (hF_55 (f := f)))
  have hend := law_last g2
  refine ⟨h2, ?_, e3⟩
  obtain ⟨h1f, h1n, h1s⟩ := h1
  simp only [e116_697, e116_698, e116_699, e116_700, e116_701, e116_702, e116_703, e116_704, e116_705, e116_706, e116_707, e116_708, e116_709, e116_710, e116_711, e116_712, e116_713, e116_716, e116_717, e116_718, e116_719, e116_720, e116_721, e116_722, e116_723, e116_724, e116_725, e116_726, e116_727, e116_728, e116_729, e116_730, e116_731, e116_732, e116_735, e116_738, e116_739, hF_16, hF_55, ald_s g0 (i := 1) (j := 1) (by decide) (by decide), ald_s g0 (i := 2) (j := 2) (by decide) (by decide), ald_s g0 (i := 3) (j := 3) (by decide) (by decide), ald_s g0 (i := 4) (j := 4) (by decide) (by decide), ald_s g0 (i := 5) (j := 5) (by decide) (by decide), ald_s g0 (i := 6) (j := 6) (by decide) (by decide), ald_s g1 (i := 1) (j := 1) (by decide) (by decide), ald_s g1 (i := 2) (j := 2) (by decide) (by decide), ald_s g1 (i := 3) (j := 3) (by decide) (by decide), ald_s g1 (i := 4) (j := 4) (by decide) (by decide), ald_s g1 (i := 5) (j := 5) (by decide) (by decide), ald_s g1 (i := 6) (j := 6) (by decide) (by decide), show (0 : Int32) + 1 = 1 from rfl, show (0 : Int32) + 2 = 2 from rfl, show (0 : Int32) + 3 = 3 from rfl, show (0 : Int32) + 4 = 4 from rfl, show (0 : Int32) + 5 = 5 from rfl, show (0 : Int32) + 6 = 6 from rfl, qMC_det e1, qMC_det e2, hm1, hm2, lg_self, eq_self, ↓reduceIte, qg_7, qg_8, qg_9, qg_10, qg_11, not_true_eq_false, not_false_eq_true, Nat.reduceBEq, Bool.false_eq_true, Nat.reduceMul, qg_0, qg_1, qg_2, qg_3, qg_4, qg_5, qg_6, ex1, ex3, ex4, qfit_i, qfit_l, qfit_r, qfit_n, qfit_b0, qfit_b1, qcat_i, qcat_r, qcat_n, qcat_l, qroom_0, qroom_c, List.map_cons, List.map_nil, List.sum_cons, List.sum_nil, Nat.reduceAdd, Nat.reduceLT, Nat.reduceLeDiff, Nat.reduceEqDiff, Nat.reduceSub, decide_true, true_and, and_true, and_self, if_true, if_false, Option.toList_some, Option.toList_none, List.cons_append, List.nil_append, qput_mk, qiast_mk, qup_at, exF, qnF0, qnF1, qnF2, qnF3, qnF4, qnF5, qnF6, qnF7, qnF8, qnF9, qnF10, qnF11]
  exact hend
set_option maxRecDepth 100000 in
set_option maxHeartbeats 8000000 in
theorem law_14 {f : Nat → qC} {xs : Nat → Int32} (h0 : f 0 = .inl (0, 7, .inl xs)) : ∃ h2, qEv 1000 3 qk_116 740 [some (.ref 0), some (.ref 16), some (.ref 55), some (.int 0)] [] (hF f, 97, 78870) (some (.int 1), h2) ∧ h2.2 = (97, 78870) := by
  have hp : ∃ v, prI 35 87 [.int (xs 1), .int (xs 2), .int (xs 3), .int (xs 4)] (991 + 9) 78870 f v := pa_lies
  obtain ⟨v, h1, e1, h2, e2, e3⟩ := hp
  have e1 : qMC 1000 35 [.ref 16, .int (xs 1), .int (xs 2), .int (xs 3), .int (xs 4)] (hF f, 97, 78870) (some (.int v), h1) := e1
  have e2 : qMC 1000 87 [.ref 55, .int (xs 1), .int (xs 2), .int (xs 3), .int (xs 4)] h1 (some (.int v), h2) := e2
  have k1 := e1.keep
  have k2 := e2.keep
  have g0 : hF f 0 = .inl (0, 7, .inl xs) := (hF_lo (by omega)).trans h0
  have g1 : h1.1 0 = .inl (0, 7, .inl xs) := (k1.2.2.2 (show 16 ≤ 97 by decide) 0 (by omega)).trans g0
  have g2 : h2.1 0 = .inl (0, 7, .inl xs) := (k2.2.2.2 (Nat.le_trans (show 16 ≤ 97 by decide) k1.1) 0 (by omega)).trans g1
  have hm1 : (55 < h1.2.1) = True := eq_true (Nat.lt_of_lt_of_le (show 55 < 97 by decide) k1.1)
  have hm2 : (∃ F, h1.1 55 = .inr (11, F)) = True := eq_true (k1.obj (show 55 < 97 by decide) (hF_55 (f := f)))
  have hend := law_last g2
  refine ⟨h2, ?_, e3⟩
  obtain ⟨h1f, h1n, h1s⟩ := h1
  simp only [e116_740, e116_741, e116_742, e116_743, e116_744, e116_745, e116_746, e116_747, e116_748, e116_749, e116_750, e116_751, e116_752, e116_753, e116_754, e116_755, e116_756, e116_757, e116_758, e116_759, e116_760, e116_761, e116_764, e116_765, e116_766, e116_767, e116_768, e116_769, e116_770, e116_771, e116_772, e116_773, e116_774, e116_775, e116_776, e116_777, e116_778, e116_779, e116_780, e116_781, e116_782, e116_783, e116_784, e116_785, e116_788, e116_791, e116_792, hF_16, hF_55, ald_s g0 (i := 1) (j := 1) (by decide) (by decide), ald_s g0 (i := 2) (j := 2) (by decide) (by decide), ald_s g0 (i := 3) (j := 3) (by decide) (by decide), ald_s g0 (i := 4) (j := 4) (by decide) (by decide), ald_s g0 (i := 5) (j := 5) (by decide) (by decide), ald_s g0 (i := 6) (j := 6) (by decide) (by decide), ald_s g1 (i := 1) (j := 1) (by decide) (by decide), ald_s g1 (i := 2) (j := 2) (by decide) (by decide), ald_s g1 (i := 3) (j := 3) (by decide) (by decide), ald_s g1 (i := 4) (j := 4) (by decide) (by decide), ald_s g1 (i := 5) (j := 5) (by decide) (by decide), ald_s g1 (i := 6) (j := 6) (by decide) (by decide), show (0 : Int32) + 1 = 1 from rfl, show (0 : Int32) + 2 = 2 from rfl, show (0 : Int32) + 3 = 3 from rfl, show (0 : Int32) + 4 = 4 from rfl, show (0 : Int32) + 5 = 5 from rfl, show (0 : Int32) + 6 = 6 from rfl, qMC_det e1, qMC_det e2, hm1, hm2, lg_self, eq_self, ↓reduceIte, qg_7, qg_8, qg_9, qg_10, qg_11, not_true_eq_false, not_false_eq_true, Nat.reduceBEq, Bool.false_eq_true, Nat.reduceMul, qg_0, qg_1, qg_2, qg_3, qg_4, qg_5, qg_6, ex1, ex3, ex4, qfit_i, qfit_l, qfit_r, qfit_n, qfit_b0, qfit_b1, qcat_i, qcat_r, qcat_n, qcat_l, qroom_0, qroom_c, List.map_cons, List.map_nil, List.sum_cons, List.sum_nil, Nat.reduceAdd, Nat.reduceLT, Nat.reduceLeDiff, Nat.reduceEqDiff, Nat.reduceSub, decide_true, true_and, and_true, and_self, if_true, if_false, Option.toList_some, Option.toList_none, List.cons_append, List.nil_append, qput_mk, qiast_mk, qup_at, exF, qnF0, qnF1, qnF2, qnF3, qnF4, qnF5, qnF6, qnF7, qnF8, qnF9, qnF10, qnF11]
  exact hend
set_option maxRecDepth 100000 in
set_option maxHeartbeats 8000000 in
theorem law_15 {f : Nat → qC} {xs : Nat → Int32} (h0 : f 0 = .inl (0, 7, .inl xs)) : ∃ h2, qEv 1000 3 qk_116 793 [some (.ref 0), some (.ref 16), some (.ref 55), some (.int 0)] [] (hF f, 97, 78870) (some (.int 1), h2) ∧ h2.2 = (97, 78870) := by
  have hp : ∃ v, prI 36 88 [.int (xs 1), .int (xs 2)] (991 + 9) 78870 f v := pa_h
  obtain ⟨v, h1, e1, h2, e2, e3⟩ := hp
  have e1 : qMC 1000 36 [.ref 16, .int (xs 1), .int (xs 2)] (hF f, 97, 78870) (some (.int v), h1) := e1
  have e2 : qMC 1000 88 [.ref 55, .int (xs 1), .int (xs 2)] h1 (some (.int v), h2) := e2
  have k1 := e1.keep
  have k2 := e2.keep
  have g0 : hF f 0 = .inl (0, 7, .inl xs) := (hF_lo (by omega)).trans h0
  have g1 : h1.1 0 = .inl (0, 7, .inl xs) := (k1.2.2.2 (show 16 ≤ 97 by decide) 0 (by omega)).trans g0
  have g2 : h2.1 0 = .inl (0, 7, .inl xs) := (k2.2.2.2 (Nat.le_trans (show 16 ≤ 97 by decide) k1.1) 0 (by omega)).trans g1
  have hm1 : (55 < h1.2.1) = True := eq_true (Nat.lt_of_lt_of_le (show 55 < 97 by decide) k1.1)
  have hm2 : (∃ F, h1.1 55 = .inr (11, F)) = True := eq_true (k1.obj (show 55 < 97 by decide) (hF_55 (f := f)))
  have hend := law_last g2
  refine ⟨h2, ?_, e3⟩
  obtain ⟨h1f, h1n, h1s⟩ := h1
  simp only [e116_793, e116_794, e116_795, e116_796, e116_797, e116_798, e116_799, e116_800, e116_801, e116_802, e116_803, e116_804, e116_807, e116_808, e116_809, e116_810, e116_811, e116_812, e116_813, e116_814, e116_815, e116_816, e116_817, e116_818, e116_821, e116_824, e116_825, hF_16, hF_55, ald_s g0 (i := 1) (j := 1) (by decide) (by decide), ald_s g0 (i := 2) (j := 2) (by decide) (by decide), ald_s g0 (i := 3) (j := 3) (by decide) (by decide), ald_s g0 (i := 4) (j := 4) (by decide) (by decide), ald_s g0 (i := 5) (j := 5) (by decide) (by decide), ald_s g0 (i := 6) (j := 6) (by decide) (by decide), ald_s g1 (i := 1) (j := 1) (by decide) (by decide), ald_s g1 (i := 2) (j := 2) (by decide) (by decide), ald_s g1 (i := 3) (j := 3) (by decide) (by decide), ald_s g1 (i := 4) (j := 4) (by decide) (by decide), ald_s g1 (i := 5) (j := 5) (by decide) (by decide), ald_s g1 (i := 6) (j := 6) (by decide) (by decide), show (0 : Int32) + 1 = 1 from rfl, show (0 : Int32) + 2 = 2 from rfl, show (0 : Int32) + 3 = 3 from rfl, show (0 : Int32) + 4 = 4 from rfl, show (0 : Int32) + 5 = 5 from rfl, show (0 : Int32) + 6 = 6 from rfl, qMC_det e1, qMC_det e2, hm1, hm2, lg_self, eq_self, ↓reduceIte, qg_7, qg_8, qg_9, qg_10, qg_11, not_true_eq_false, not_false_eq_true, Nat.reduceBEq, Bool.false_eq_true, Nat.reduceMul, qg_0, qg_1, qg_2, qg_3, qg_4, qg_5, qg_6, ex1, ex3, ex4, qfit_i, qfit_l, qfit_r, qfit_n, qfit_b0, qfit_b1, qcat_i, qcat_r, qcat_n, qcat_l, qroom_0, qroom_c, List.map_cons, List.map_nil, List.sum_cons, List.sum_nil, Nat.reduceAdd, Nat.reduceLT, Nat.reduceLeDiff, Nat.reduceEqDiff, Nat.reduceSub, decide_true, true_and, and_true, and_self, if_true, if_false, Option.toList_some, Option.toList_none, List.cons_append, List.nil_append, qput_mk, qiast_mk, qup_at, exF, qnF0, qnF1, qnF2, qnF3, qnF4, qnF5, qnF6, qnF7, qnF8, qnF9, qnF10, qnF11]
  exact hend
set_option maxRecDepth 100000 in
set_option maxHeartbeats 8000000 in
theorem law_16 {f : Nat → qC} {xs : Nat → Int32} (h0 : f 0 = .inl (0, 7, .inl xs)) : ∃ h2, qEv 1000 3 qk_116 826 [some (.ref 0), some (.ref 16), some (.ref 55), some (.int 0)] [] (hF f, 97, 78870) (some (.int 1), h2) ∧ h2.2 = (97, 78870) := by
  have hp : ∃ v, prI 37 89 [.int (xs 1)] (991 + 9) 78870 f v := pa_sum
  obtain ⟨v, h1, e1, h2, e2, e3⟩ := hp
  have e1 : qMC 1000 37 [.ref 16, .int (xs 1)] (hF f, 97, 78870) (some (.int v), h1) := e1
  have e2 : qMC 1000 89 [.ref 55, .int (xs 1)] h1 (some (.int v), h2) := e2
  have k1 := e1.keep
  have k2 := e2.keep
  have g0 : hF f 0 = .inl (0, 7, .inl xs) := (hF_lo (by omega)).trans h0
  have g1 : h1.1 0 = .inl (0, 7, .inl xs) := (k1.2.2.2 (show 16 ≤ 97 by decide) 0 (by omega)).trans g0
  have g2 : h2.1 0 = .inl (0, 7, .inl xs) := (k2.2.2.2 (Nat.le_trans (show 16 ≤ 97 by decide) k1.1) 0 (by omega)).trans g1
  have hm1 : (55 < h1.2.1) = True := eq_true (Nat.lt_of_lt_of_le (show 55 < 97 by decide) k1.1)
  have hm2 : (∃ F, h1.1 55 = .inr (11, F)) = True := eq_true (k1.obj (show 55 < 97 by decide) (hF_55 (f := f)))
  have hend := law_last g2
  refine ⟨h2, ?_, e3⟩
  obtain ⟨h1f, h1n, h1s⟩ := h1
  simp only [e116_826, e116_827, e116_828, e116_829, e116_830, e116_831, e116_832, e116_835, e116_836, e116_837, e116_838, e116_839, e116_840, e116_841, e116_844, e116_847, e116_848, hF_16, hF_55, ald_s g0 (i := 1) (j := 1) (by decide) (by decide), ald_s g0 (i := 2) (j := 2) (by decide) (by decide), ald_s g0 (i := 3) (j := 3) (by decide) (by decide), ald_s g0 (i := 4) (j := 4) (by decide) (by decide), ald_s g0 (i := 5) (j := 5) (by decide) (by decide), ald_s g0 (i := 6) (j := 6) (by decide) (by decide), ald_s g1 (i := 1) (j := 1) (by decide) (by decide), ald_s g1 (i := 2) (j := 2) (by decide) (by decide), ald_s g1 (i := 3) (j := 3) (by decide) (by decide), ald_s g1 (i := 4) (j := 4) (by decide) (by decide), ald_s g1 (i := 5) (j := 5) (by decide) (by decide), ald_s g1 (i := 6) (j := 6) (by decide) (by decide), show (0 : Int32) + 1 = 1 from rfl, show (0 : Int32) + 2 = 2 from rfl, show (0 : Int32) + 3 = 3 from rfl, show (0 : Int32) + 4 = 4 from rfl, show (0 : Int32) + 5 = 5 from rfl, show (0 : Int32) + 6 = 6 from rfl, qMC_det e1, qMC_det e2, hm1, hm2, lg_self, eq_self, ↓reduceIte, qg_7, qg_8, qg_9, qg_10, qg_11, not_true_eq_false, not_false_eq_true, Nat.reduceBEq, Bool.false_eq_true, Nat.reduceMul, qg_0, qg_1, qg_2, qg_3, qg_4, qg_5, qg_6, ex1, ex3, ex4, qfit_i, qfit_l, qfit_r, qfit_n, qfit_b0, qfit_b1, qcat_i, qcat_r, qcat_n, qcat_l, qroom_0, qroom_c, List.map_cons, List.map_nil, List.sum_cons, List.sum_nil, Nat.reduceAdd, Nat.reduceLT, Nat.reduceLeDiff, Nat.reduceEqDiff, Nat.reduceSub, decide_true, true_and, and_true, and_self, if_true, if_false, Option.toList_some, Option.toList_none, List.cons_append, List.nil_append, qput_mk, qiast_mk, qup_at, exF, qnF0, qnF1, qnF2, qnF3, qnF4, qnF5, qnF6, qnF7, qnF8, qnF9, qnF10, qnF11]
  exact hend
set_option maxRecDepth 100000 in
set_option maxHeartbeats 8000000 in
theorem law_17 {f : Nat → qC} {xs : Nat → Int32} (h0 : f 0 = .inl (0, 7, .inl xs)) : ∃ h2, qEv 1000 3 qk_116 849 [some (.ref 0), some (.ref 16), some (.ref 55), some (.int 0)] [] (hF f, 97, 78870) (some (.int 1), h2) ∧ h2.2 = (97, 78870) := by
  have hp : ∃ v, prI 38 90 [.int (xs 1), .int (xs 2)] (991 + 9) 78870 f v := pa_same
  obtain ⟨v, h1, e1, h2, e2, e3⟩ := hp
  have e1 : qMC 1000 38 [.ref 16, .int (xs 1), .int (xs 2)] (hF f, 97, 78870) (some (.int v), h1) := e1
  have e2 : qMC 1000 90 [.ref 55, .int (xs 1), .int (xs 2)] h1 (some (.int v), h2) := e2
  have k1 := e1.keep
  have k2 := e2.keep
  have g0 : hF f 0 = .inl (0, 7, .inl xs) := (hF_lo (by omega)).trans h0
  have g1 : h1.1 0 = .inl (0, 7, .inl xs) := (k1.2.2.2 (show 16 ≤ 97 by decide) 0 (by omega)).trans g0
  have g2 : h2.1 0 = .inl (0, 7, .inl xs) := (k2.2.2.2 (Nat.le_trans (show 16 ≤ 97 by decide) k1.1) 0 (by omega)).trans g1
  have hm1 : (55 < h1.2.1) = True := eq_true (Nat.lt_of_lt_of_le (show 55 < 97 by decide) k1.1)
  have hm2 : (∃ F, h1.1 55 = .inr (11, F)) = True := eq_true (k1.obj (show 55 < 97 by decide) (hF_55 (f := f)))
  have hend := law_last g2
  refine ⟨h2, ?_, e3⟩
  obtain ⟨h1f, h1n, h1s⟩ := h1
  simp only [e116_849, e116_850, e116_851, e116_852, e116_853, e116_854, e116_855, e116_856, e116_857, e116_858, e116_859, e116_860, e116_863, e116_864, e116_865, e116_866, e116_867, e116_868, e116_869, e116_870, e116_871, e116_872, e116_873, e116_874, e116_877, e116_880, e116_881, hF_16, hF_55, ald_s g0 (i := 1) (j := 1) (by decide) (by decide), ald_s g0 (i := 2) (j := 2) (by decide) (by decide), ald_s g0 (i := 3) (j := 3) (by decide) (by decide), ald_s g0 (i := 4) (j := 4) (by decide) (by decide), ald_s g0 (i := 5) (j := 5) (by decide) (by decide), ald_s g0 (i := 6) (j := 6) (by decide) (by decide), ald_s g1 (i := 1) (j := 1) (by decide) (by decide), ald_s g1 (i := 2) (j := 2) (by decide) (by decide), ald_s g1 (i := 3) (j := 3) (by decide) (by decide), ald_s g1 (i := 4) (j := 4) (by decide) (by decide), ald_s g1 (i := 5) (j := 5) (by decide) (by decide), ald_s g1 (i := 6) (j := 6) (by decide) (by decide), show (0 : Int32) + 1 = 1 from rfl, show (0 : Int32) + 2 = 2 from rfl, show (0 : Int32) + 3 = 3 from rfl, show (0 : Int32) + 4 = 4 from rfl, show (0 : Int32) + 5 = 5 from rfl, show (0 : Int32) + 6 = 6 from rfl, qMC_det e1, qMC_det e2, hm1, hm2, lg_self, eq_self, ↓reduceIte, qg_7, qg_8, qg_9, qg_10, qg_11, not_true_eq_false, not_false_eq_true, Nat.reduceBEq, Bool.false_eq_true, Nat.reduceMul, qg_0, qg_1, qg_2, qg_3, qg_4, qg_5, qg_6, ex1, ex3, ex4, qfit_i, qfit_l, qfit_r, qfit_n, qfit_b0, qfit_b1, qcat_i, qcat_r, qcat_n, qcat_l, qroom_0, qroom_c, List.map_cons, List.map_nil, List.sum_cons, List.sum_nil, Nat.reduceAdd, Nat.reduceLT, Nat.reduceLeDiff, Nat.reduceEqDiff, Nat.reduceSub, decide_true, true_and, and_true, and_self, if_true, if_false, Option.toList_some, Option.toList_none, List.cons_append, List.nil_append, qput_mk, qiast_mk, qup_at, exF, qnF0, qnF1, qnF2, qnF3, qnF4, qnF5, qnF6, qnF7, qnF8, qnF9, qnF10, qnF11]
  exact hend
set_option maxRecDepth 100000 in
set_option maxHeartbeats 8000000 in
theorem law_18 {f : Nat → qC} {xs : Nat → Int32} (h0 : f 0 = .inl (0, 7, .inl xs)) : ∃ h2, qEv 1000 3 qk_116 882 [some (.ref 0), some (.ref 16), some (.ref 55), some (.int 0)] [] (hF f, 97, 78870) (some (.int 1), h2) ∧ h2.2 = (97, 78870) := by
  have hp : ∃ v, prI 39 91 [.int (xs 1), .int (xs 2)] (991 + 9) 78870 f v := pa_inside
  obtain ⟨v, h1, e1, h2, e2, e3⟩ := hp
  have e1 : qMC 1000 39 [.ref 16, .int (xs 1), .int (xs 2)] (hF f, 97, 78870) (some (.int v), h1) := e1
  have e2 : qMC 1000 91 [.ref 55, .int (xs 1), .int (xs 2)] h1 (some (.int v), h2) := e2
  have k1 := e1.keep
  have k2 := e2.keep
  have g0 : hF f 0 = .inl (0, 7, .inl xs) := (hF_lo (by omega)).trans h0
  have g1 : h1.1 0 = .inl (0, 7, .inl xs) := (k1.2.2.2 (show 16 ≤ 97 by decide) 0 (by omega)).trans g0
  have g2 : h2.1 0 = .inl (0, 7, .inl xs) := (k2.2.2.2 (Nat.le_trans (show 16 ≤ 97 by decide) k1.1) 0 (by omega)).trans g1
  have hm1 : (55 < h1.2.1) = True := eq_true (Nat.lt_of_lt_of_le (show 55 < 97 by decide) k1.1)
  have hm2 : (∃ F, h1.1 55 = .inr (11, F)) = True := eq_true (k1.obj (show 55 < 97 by decide) (hF_55 (f := f)))
  have hend := law_last g2
  refine ⟨h2, ?_, e3⟩
  obtain ⟨h1f, h1n, h1s⟩ := h1
  simp only [e116_882, e116_883, e116_884, e116_885, e116_886, e116_887, e116_888, e116_889, e116_890, e116_891, e116_892, e116_893, e116_896, e116_897, e116_898, e116_899, e116_900, e116_901, e116_902, e116_903, e116_904, e116_905, e116_906, e116_907, e116_910, e116_913, e116_914, hF_16, hF_55, ald_s g0 (i := 1) (j := 1) (by decide) (by decide), ald_s g0 (i := 2) (j := 2) (by decide) (by decide), ald_s g0 (i := 3) (j := 3) (by decide) (by decide), ald_s g0 (i := 4) (j := 4) (by decide) (by decide), ald_s g0 (i := 5) (j := 5) (by decide) (by decide), ald_s g0 (i := 6) (j := 6) (by decide) (by decide), ald_s g1 (i := 1) (j := 1) (by decide) (by decide), ald_s g1 (i := 2) (j := 2) (by decide) (by decide), ald_s g1 (i := 3) (j := 3) (by decide) (by decide), ald_s g1 (i := 4) (j := 4) (by decide) (by decide), ald_s g1 (i := 5) (j := 5) (by decide) (by decide), ald_s g1 (i := 6) (j := 6) (by decide) (by decide), show (0 : Int32) + 1 = 1 from rfl, show (0 : Int32) + 2 = 2 from rfl, show (0 : Int32) + 3 = 3 from rfl, show (0 : Int32) + 4 = 4 from rfl, show (0 : Int32) + 5 = 5 from rfl, show (0 : Int32) + 6 = 6 from rfl, qMC_det e1, qMC_det e2, hm1, hm2, lg_self, eq_self, ↓reduceIte, qg_7, qg_8, qg_9, qg_10, qg_11, not_true_eq_false, not_false_eq_true, Nat.reduceBEq, Bool.false_eq_true, Nat.reduceMul, qg_0, qg_1, qg_2, qg_3, qg_4, qg_5, qg_6, ex1, ex3, ex4, qfit_i, qfit_l, qfit_r, qfit_n, qfit_b0, qfit_b1, qcat_i, qcat_r, qcat_n, qcat_l, qroom_0, qroom_c, List.map_cons, List.map_nil, List.sum_cons, List.sum_nil, Nat.reduceAdd, Nat.reduceLT, Nat.reduceLeDiff, Nat.reduceEqDiff, Nat.reduceSub, decide_true, true_and, and_true, and_self, if_true, if_false, Option.toList_some, Option.toList_none, List.cons_append, List.nil_append, qput_mk, qiast_mk, qup_at, exF, qnF0, qnF1, qnF2, qnF3, qnF4, qnF5, qnF6, qnF7, qnF8, qnF9, qnF10, qnF11]
  exact hend
set_option maxRecDepth 100000 in
set_option maxHeartbeats 8000000 in
theorem law_19 {f : Nat → qC} {xs : Nat → Int32} (h0 : f 0 = .inl (0, 7, .inl xs)) : ∃ h2, qEv 1000 3 qk_116 915 [some (.ref 0), some (.ref 16), some (.ref 55), some (.int 0)] [] (hF f, 97, 78870) (some (.int 1), h2) ∧ h2.2 = (97, 78870) := by
  have hp : ∃ v, prI 40 92 [.int (xs 1)] (991 + 9) 78870 f v := pa_pattern
  obtain ⟨v, h1, e1, h2, e2, e3⟩ := hp
  have e1 : qMC 1000 40 [.ref 16, .int (xs 1)] (hF f, 97, 78870) (some (.int v), h1) := e1
  have e2 : qMC 1000 92 [.ref 55, .int (xs 1)] h1 (some (.int v), h2) := e2
  have k1 := e1.keep
  have k2 := e2.keep
  have g0 : hF f 0 = .inl (0, 7, .inl xs) := (hF_lo (by omega)).trans h0
  have g1 : h1.1 0 = .inl (0, 7, .inl xs) := (k1.2.2.2 (show 16 ≤ 97 by decide) 0 (by omega)).trans g0
  have g2 : h2.1 0 = .inl (0, 7, .inl xs) := (k2.2.2.2 (Nat.le_trans (show 16 ≤ 97 by decide) k1.1) 0 (by omega)).trans g1
  have hm1 : (55 < h1.2.1) = True := eq_true (Nat.lt_of_lt_of_le (show 55 < 97 by decide) k1.1)
  have hm2 : (∃ F, h1.1 55 = .inr (11, F)) = True := eq_true (k1.obj (show 55 < 97 by decide) (hF_55 (f := f)))
  have hend := law_last g2
  refine ⟨h2, ?_, e3⟩
  obtain ⟨h1f, h1n, h1s⟩ := h1
  simp only [e116_915, e116_916, e116_917, e116_918, e116_919, e116_920, e116_921, e116_924, e116_925, e116_926, e116_927, e116_928, e116_929, e116_930, e116_933, e116_936, e116_937, hF_16, hF_55, ald_s g0 (i := 1) (j := 1) (by decide) (by decide), ald_s g0 (i := 2) (j := 2) (by decide) (by decide), ald_s g0 (i := 3) (j := 3) (by decide) (by decide), ald_s g0 (i := 4) (j := 4) (by decide) (by decide), ald_s g0 (i := 5) (j := 5) (by decide) (by decide), ald_s g0 (i := 6) (j := 6) (by decide) (by decide), ald_s g1 (i := 1) (j := 1) (by decide) (by decide), ald_s g1 (i := 2) (j := 2) (by decide) (by decide), ald_s g1 (i := 3) (j := 3) (by decide) (by decide), ald_s g1 (i := 4) (j := 4) (by decide) (by decide), ald_s g1 (i := 5) (j := 5) (by decide) (by decide), ald_s g1 (i := 6) (j := 6) (by decide) (by decide), show (0 : Int32) + 1 = 1 from rfl, show (0 : Int32) + 2 = 2 from rfl, show (0 : Int32) + 3 = 3 from rfl, show (0 : Int32) + 4 = 4 from rfl, show (0 : Int32) + 5 = 5 from rfl, show (0 : Int32) + 6 = 6 from rfl, qMC_det e1, qMC_det e2, hm1, hm2, lg_self, eq_self, ↓reduceIte, qg_7, qg_8, qg_9, qg_10, qg_11, not_true_eq_false, not_false_eq_true, Nat.reduceBEq, Bool.false_eq_true, Nat.reduceMul, qg_0, qg_1, qg_2, qg_3, qg_4, qg_5, qg_6, ex1, ex3, ex4, qfit_i, qfit_l, qfit_r, qfit_n, qfit_b0, qfit_b1, qcat_i, qcat_r, qcat_n, qcat_l, qroom_0, qroom_c, List.map_cons, List.map_nil, List.sum_cons, List.sum_nil, Nat.reduceAdd, Nat.reduceLT, Nat.reduceLeDiff, Nat.reduceEqDiff, Nat.reduceSub, decide_true, true_and, and_true, and_self, if_true, if_false, Option.toList_some, Option.toList_none, List.cons_append, List.nil_append, qput_mk, qiast_mk, qup_at, exF, qnF0, qnF1, qnF2, qnF3, qnF4, qnF5, qnF6, qnF7, qnF8, qnF9, qnF10, qnF11]
  exact hend
set_option maxRecDepth 100000 in
set_option maxHeartbeats 8000000 in
theorem law_20 {f : Nat → qC} {xs : Nat → Int32} (h0 : f 0 = .inl (0, 7, .inl xs)) : ∃ h2, qEv 1000 3 qk_116 938 [some (.ref 0), some (.ref 16), some (.ref 55), some (.int 0)] [] (hF f, 97, 78870) (some (.int 1), h2) ∧ h2.2 = (97, 78870) := by
  have hp : ∃ v, prI 41 93 [.int (xs 1)] (991 + 9) 78870 f v := pa_set
  obtain ⟨v, h1, e1, h2, e2, e3⟩ := hp
  have e1 : qMC 1000 41 [.ref 16, .int (xs 1)] (hF f, 97, 78870) (some (.int v), h1) := e1
  have e2 : qMC 1000 93 [.ref 55, .int (xs 1)] h1 (some (.int v), h2) := e2
  have k1 := e1.keep
  have k2 := e2.keep
  have g0 : hF f 0 = .inl (0, 7, .inl xs) := (hF_lo (by omega)).trans h0
  have g1 : h1.1 0 = .inl (0, 7, .inl xs) := (k1.2.2.2 (show 16 ≤ 97 by decide) 0 (by omega)).trans g0
  have g2 : h2.1 0 = .inl (0, 7, .inl xs) := (k2.2.2.2 (Nat.le_trans (show 16 ≤ 97 by decide) k1.1) 0 (by omega)).trans g1
  have hm1 : (55 < h1.2.1) = True := eq_true (Nat.lt_of_lt_of_le (show 55 < 97 by decide) k1.1)
  have hm2 : (∃ F, h1.1 55 = .inr (11, F)) = True := eq_true (k1.obj (show 55 < 97 by decide) (hF_55 (f := f)))
  have hend := law_last g2
  refine ⟨h2, ?_, e3⟩
  obtain ⟨h1f, h1n, h1s⟩ := h1
  simp only [e116_938, e116_939, e116_940, e116_941, e116_942, e116_943, e116_944, e116_947, e116_948, e116_949, e116_950, e116_951, e116_952, e116_953, e116_956, e116_959, e116_960, hF_16, hF_55, ald_s g0 (i := 1) (j := 1) (by decide) (by decide), ald_s g0 (i := 2) (j := 2) (by decide) (by decide), ald_s g0 (i := 3) (j := 3) (by decide) (by decide), ald_s g0 (i := 4) (j := 4) (by decide) (by decide), ald_s g0 (i := 5) (j := 5) (by decide) (by decide), ald_s g0 (i := 6) (j := 6) (by decide) (by decide), ald_s g1 (i := 1) (j := 1) (by decide) (by decide), ald_s g1 (i := 2) (j := 2) (by decide) (by decide), ald_s g1 (i := 3) (j := 3) (by decide) (by decide), ald_s g1 (i := 4) (j := 4) (by decide) (by decide), ald_s g1 (i := 5) (j := 5) (by decide) (by decide), ald_s g1 (i := 6) (j := 6) (by decide) (by decide), show (0 : Int32) + 1 = 1 from rfl, show (0 : Int32) + 2 = 2 from rfl, show (0 : Int32) + 3 = 3 from rfl, show (0 : Int32) + 4 = 4 from rfl, show (0 : Int32) + 5 = 5 from rfl, show (0 : Int32) + 6 = 6 from rfl, qMC_det e1, qMC_det e2, hm1, hm2, lg_self, eq_self, ↓reduceIte, qg_7, qg_8, qg_9, qg_10, qg_11, not_true_eq_false, not_false_eq_true, Nat.reduceBEq, Bool.false_eq_true, Nat.reduceMul, qg_0, qg_1, qg_2, qg_3, qg_4, qg_5, qg_6, ex1, ex3, ex4, qfit_i, qfit_l, qfit_r, qfit_n, qfit_b0, qfit_b1, qcat_i, qcat_r, qcat_n, qcat_l, qroom_0, qroom_c, List.map_cons, List.map_nil, List.sum_cons, List.sum_nil, Nat.reduceAdd, Nat.reduceLT, Nat.reduceLeDiff, Nat.reduceEqDiff, Nat.reduceSub, decide_true, true_and, and_true, and_self, if_true, if_false, Option.toList_some, Option.toList_none, List.cons_append, List.nil_append, qput_mk, qiast_mk, qup_at, exF, qnF0, qnF1, qnF2, qnF3, qnF4, qnF5, qnF6, qnF7, qnF8, qnF9, qnF10, qnF11]
  exact hend
set_option maxRecDepth 100000 in
set_option maxHeartbeats 8000000 in
theorem law_21 {f : Nat → qC} {xs : Nat → Int32} (h0 : f 0 = .inl (0, 7, .inl xs)) : ∃ h2, qEv 1000 3 qk_116 961 [some (.ref 0), some (.ref 16), some (.ref 55), some (.int 0)] [] (hF f, 97, 78870) (some (.int 1), h2) ∧ h2.2 = (97, 78870) := by
  have hp : ∃ v, prI 42 94 [.int (xs 1)] (991 + 9) 78870 f v := pa_place
  obtain ⟨v, h1, e1, h2, e2, e3⟩ := hp
  have e1 : qMC 1000 42 [.ref 16, .int (xs 1)] (hF f, 97, 78870) (some (.int v), h1) := e1
  have e2 : qMC 1000 94 [.ref 55, .int (xs 1)] h1 (some (.int v), h2) := e2
  have k1 := e1.keep
  have k2 := e2.keep
  have g0 : hF f 0 = .inl (0, 7, .inl xs) := (hF_lo (by omega)).trans h0
  have g1 : h1.1 0 = .inl (0, 7, .inl xs) := (k1.2.2.2 (show 16 ≤ 97 by decide) 0 (by omega)).trans g0
  have g2 : h2.1 0 = .inl (0, 7, .inl xs) := (k2.2.2.2 (Nat.le_trans (show 16 ≤ 97 by decide) k1.1) 0 (by omega)).trans g1
  have hm1 : (55 < h1.2.1) = True := eq_true (Nat.lt_of_lt_of_le (show 55 < 97 by decide) k1.1)
  have hm2 : (∃ F, h1.1 55 = .inr (11, F)) = True := eq_true (k1.obj (show 55 < 97 by decide) (hF_55 (f := f)))
  have hend := law_last g2
  refine ⟨h2, ?_, e3⟩
  obtain ⟨h1f, h1n, h1s⟩ := h1
  simp only [e116_961, e116_962, e116_963, e116_964, e116_965, e116_966, e116_967, e116_970, e116_971, e116_972, e116_973, e116_974, e116_975, e116_976, e116_979, e116_982, e116_983, hF_16, hF_55, ald_s g0 (i := 1) (j := 1) (by decide) (by decide), ald_s g0 (i := 2) (j := 2) (by decide) (by decide), ald_s g0 (i := 3) (j := 3) (by decide) (by decide), ald_s g0 (i := 4) (j := 4) (by decide) (by decide), ald_s g0 (i := 5) (j := 5) (by decide) (by decide), ald_s g0 (i := 6) (j := 6) (by decide) (by decide), ald_s g1 (i := 1) (j := 1) (by decide) (by decide), ald_s g1 (i := 2) (j := 2) (by decide) (by decide), ald_s g1 (i := 3) (j := 3) (by decide) (by decide), ald_s g1 (i := 4) (j := 4) (by decide) (by decide), ald_s g1 (i := 5) (j := 5) (by decide) (by decide), ald_s g1 (i := 6) (j := 6) (by decide) (by decide), show (0 : Int32) + 1 = 1 from rfl, show (0 : Int32) + 2 = 2 from rfl, show (0 : Int32) + 3 = 3 from rfl, show (0 : Int32) + 4 = 4 from rfl, show (0 : Int32) + 5 = 5 from rfl, show (0 : Int32) + 6 = 6 from rfl, qMC_det e1, qMC_det e2, hm1, hm2, lg_self, eq_self, ↓reduceIte, qg_7, qg_8, qg_9, qg_10, qg_11, not_true_eq_false, not_false_eq_true, Nat.reduceBEq, Bool.false_eq_true, Nat.reduceMul, qg_0, qg_1, qg_2, qg_3, qg_4, qg_5, qg_6, ex1, ex3, ex4, qfit_i, qfit_l, qfit_r, qfit_n, qfit_b0, qfit_b1, qcat_i, qcat_r, qcat_n, qcat_l, qroom_0, qroom_c, List.map_cons, List.map_nil, List.sum_cons, List.sum_nil, Nat.reduceAdd, Nat.reduceLT, Nat.reduceLeDiff, Nat.reduceEqDiff, Nat.reduceSub, decide_true, true_and, and_true, and_self, if_true, if_false, Option.toList_some, Option.toList_none, List.cons_append, List.nil_append, qput_mk, qiast_mk, qup_at, exF, qnF0, qnF1, qnF2, qnF3, qnF4, qnF5, qnF6, qnF7, qnF8, qnF9, qnF10, qnF11]
  exact hend
set_option maxRecDepth 100000 in
set_option maxHeartbeats 8000000 in
theorem law_22 {f : Nat → qC} {xs : Nat → Int32} (h0 : f 0 = .inl (0, 7, .inl xs)) : ∃ h2, qEv 1000 3 qk_116 984 [some (.ref 0), some (.ref 16), some (.ref 55), some (.int 0)] [] (hF f, 97, 78870) (some (.int 1), h2) ∧ h2.2 = (97, 78870) := by
  have hp : ∃ v, prI 43 95 [.int (xs 1)] (991 + 9) 78870 f v := pa_row
  obtain ⟨v, h1, e1, h2, e2, e3⟩ := hp
  have e1 : qMC 1000 43 [.ref 16, .int (xs 1)] (hF f, 97, 78870) (some (.int v), h1) := e1
  have e2 : qMC 1000 95 [.ref 55, .int (xs 1)] h1 (some (.int v), h2) := e2
  have k1 := e1.keep
  have k2 := e2.keep
  have g0 : hF f 0 = .inl (0, 7, .inl xs) := (hF_lo (by omega)).trans h0
  have g1 : h1.1 0 = .inl (0, 7, .inl xs) := (k1.2.2.2 (show 16 ≤ 97 by decide) 0 (by omega)).trans g0
  have g2 : h2.1 0 = .inl (0, 7, .inl xs) := (k2.2.2.2 (Nat.le_trans (show 16 ≤ 97 by decide) k1.1) 0 (by omega)).trans g1
  have hm1 : (55 < h1.2.1) = True := eq_true (Nat.lt_of_lt_of_le (show 55 < 97 by decide) k1.1)
  have hm2 : (∃ F, h1.1 55 = .inr (11, F)) = True := eq_true (k1.obj (show 55 < 97 by decide) (hF_55 (f := f)))
  have hend := law_last g2
  refine ⟨h2, ?_, e3⟩
  obtain ⟨h1f, h1n, h1s⟩ := h1
  simp only [e116_984, e116_985, e116_986, e116_987, e116_988, e116_989, e116_990, e116_993, e116_994, e116_995, e116_996, e116_997, e116_998, e116_999, e116_1002, e116_1005, e116_1006, hF_16, hF_55, ald_s g0 (i := 1) (j := 1) (by decide) (by decide), ald_s g0 (i := 2) (j := 2) (by decide) (by decide), ald_s g0 (i := 3) (j := 3) (by decide) (by decide), ald_s g0 (i := 4) (j := 4) (by decide) (by decide), ald_s g0 (i := 5) (j := 5) (by decide) (by decide), ald_s g0 (i := 6) (j := 6) (by decide) (by decide), ald_s g1 (i := 1) (j := 1) (by decide) (by decide), ald_s g1 (i := 2) (j := 2) (by decide) (by decide), ald_s g1 (i := 3) (j := 3) (by decide) (by decide), ald_s g1 (i := 4) (j := 4) (by decide) (by decide), ald_s g1 (i := 5) (j := 5) (by decide) (by decide), ald_s g1 (i := 6) (j := 6) (by decide) (by decide), show (0 : Int32) + 1 = 1 from rfl, show (0 : Int32) + 2 = 2 from rfl, show (0 : Int32) + 3 = 3 from rfl, show (0 : Int32) + 4 = 4 from rfl, show (0 : Int32) + 5 = 5 from rfl, show (0 : Int32) + 6 = 6 from rfl, qMC_det e1, qMC_det e2, hm1, hm2, lg_self, eq_self, ↓reduceIte, qg_7, qg_8, qg_9, qg_10, qg_11, not_true_eq_false, not_false_eq_true, Nat.reduceBEq, Bool.false_eq_true, Nat.reduceMul, qg_0, qg_1, qg_2, qg_3, qg_4, qg_5, qg_6, ex1, ex3, ex4, qfit_i, qfit_l, qfit_r, qfit_n, qfit_b0, qfit_b1, qcat_i, qcat_r, qcat_n, qcat_l, qroom_0, qroom_c, List.map_cons, List.map_nil, List.sum_cons, List.sum_nil, Nat.reduceAdd, Nat.reduceLT, Nat.reduceLeDiff, Nat.reduceEqDiff, Nat.reduceSub, decide_true, true_and, and_true, and_self, if_true, if_false, Option.toList_some, Option.toList_none, List.cons_append, List.nil_append, qput_mk, qiast_mk, qup_at, exF, qnF0, qnF1, qnF2, qnF3, qnF4, qnF5, qnF6, qnF7, qnF8, qnF9, qnF10, qnF11]
  exact hend
set_option maxRecDepth 100000 in
set_option maxHeartbeats 8000000 in
theorem law_23 {f : Nat → qC} {xs : Nat → Int32} (h0 : f 0 = .inl (0, 7, .inl xs)) : ∃ h2, qEv 1000 3 qk_116 1007 [some (.ref 0), some (.ref 16), some (.ref 55), some (.int 0)] [] (hF f, 97, 78870) (some (.int 1), h2) ∧ h2.2 = (97, 78870) := by
  have hp : ∃ v, prI 44 96 [] (991 + 9) 78870 f v := pa_clear
  obtain ⟨v, h1, e1, h2, e2, e3⟩ := hp
  have e1 : qMC 1000 44 [.ref 16] (hF f, 97, 78870) (some (.int v), h1) := e1
  have e2 : qMC 1000 96 [.ref 55] h1 (some (.int v), h2) := e2
  have k1 := e1.keep
  have k2 := e2.keep
  have g0 : hF f 0 = .inl (0, 7, .inl xs) := (hF_lo (by omega)).trans h0
  have g1 : h1.1 0 = .inl (0, 7, .inl xs) := (k1.2.2.2 (show 16 ≤ 97 by decide) 0 (by omega)).trans g0
  have g2 : h2.1 0 = .inl (0, 7, .inl xs) := (k2.2.2.2 (Nat.le_trans (show 16 ≤ 97 by decide) k1.1) 0 (by omega)).trans g1
  have hm1 : (55 < h1.2.1) = True := eq_true (Nat.lt_of_lt_of_le (show 55 < 97 by decide) k1.1)
  have hm2 : (∃ F, h1.1 55 = .inr (11, F)) = True := eq_true (k1.obj (show 55 < 97 by decide) (hF_55 (f := f)))
  have hend := law_last g2
  refine ⟨h2, ?_, e3⟩
  obtain ⟨h1f, h1n, h1s⟩ := h1
  simp only [e116_1007, e116_1008, e116_1011, e116_1012, e116_1015, e116_1018, e116_1019, hF_16, hF_55, ald_s g0 (i := 1) (j := 1) (by decide) (by decide), ald_s g0 (i := 2) (j := 2) (by decide) (by decide), ald_s g0 (i := 3) (j := 3) (by decide) (by decide), ald_s g0 (i := 4) (j := 4) (by decide) (by decide), ald_s g0 (i := 5) (j := 5) (by decide) (by decide), ald_s g0 (i := 6) (j := 6) (by decide) (by decide), ald_s g1 (i := 1) (j := 1) (by decide) (by decide), ald_s g1 (i := 2) (j := 2) (by decide) (by decide), ald_s g1 (i := 3) (j := 3) (by decide) (by decide), ald_s g1 (i := 4) (j := 4) (by decide) (by decide), ald_s g1 (i := 5) (j := 5) (by decide) (by decide), ald_s g1 (i := 6) (j := 6) (by decide) (by decide), show (0 : Int32) + 1 = 1 from rfl, show (0 : Int32) + 2 = 2 from rfl, show (0 : Int32) + 3 = 3 from rfl, show (0 : Int32) + 4 = 4 from rfl, show (0 : Int32) + 5 = 5 from rfl, show (0 : Int32) + 6 = 6 from rfl, qMC_det e1, qMC_det e2, hm1, hm2, lg_self, eq_self, ↓reduceIte, qg_7, qg_8, qg_9, qg_10, qg_11, not_true_eq_false, not_false_eq_true, Nat.reduceBEq, Bool.false_eq_true, Nat.reduceMul, qg_0, qg_1, qg_2, qg_3, qg_4, qg_5, qg_6, ex1, ex3, ex4, qfit_i, qfit_l, qfit_r, qfit_n, qfit_b0, qfit_b1, qcat_i, qcat_r, qcat_n, qcat_l, qroom_0, qroom_c, List.map_cons, List.map_nil, List.sum_cons, List.sum_nil, Nat.reduceAdd, Nat.reduceLT, Nat.reduceLeDiff, Nat.reduceEqDiff, Nat.reduceSub, decide_true, true_and, and_true, and_self, if_true, if_false, Option.toList_some, Option.toList_none, List.cons_append, List.nil_append, qput_mk, qiast_mk, qup_at, exF, qnF0, qnF1, qnF2, qnF3, qnF4, qnF5, qnF6, qnF7, qnF8, qnF9, qnF10, qnF11]
  exact hend
set_option maxRecDepth 100000 in
set_option maxHeartbeats 8000000 in
theorem law_24 {f : Nat → qC} {xs : Nat → Int32} (h0 : f 0 = .inl (0, 7, .inl xs)) : ∃ h2, qEv 1000 3 qk_116 1020 [some (.ref 0), some (.ref 16), some (.ref 55), some (.int 0)] [] (hF f, 97, 78870) (some (.int 1), h2) ∧ h2.2 = (97, 78870) := by
  have hp : ∃ v, prI 45 97 [.int (xs 1)] (991 + 9) 78870 f v := pa_meets
  obtain ⟨v, h1, e1, h2, e2, e3⟩ := hp
  have e1 : qMC 1000 45 [.ref 16, .int (xs 1)] (hF f, 97, 78870) (some (.int v), h1) := e1
  have e2 : qMC 1000 97 [.ref 55, .int (xs 1)] h1 (some (.int v), h2) := e2
  have k1 := e1.keep
  have k2 := e2.keep
  have g0 : hF f 0 = .inl (0, 7, .inl xs) := (hF_lo (by omega)).trans h0
  have g1 : h1.1 0 = .inl (0, 7, .inl xs) := (k1.2.2.2 (show 16 ≤ 97 by decide) 0 (by omega)).trans g0
  have g2 : h2.1 0 = .inl (0, 7, .inl xs) := (k2.2.2.2 (Nat.le_trans (show 16 ≤ 97 by decide) k1.1) 0 (by omega)).trans g1
  have hm1 : (55 < h1.2.1) = True := eq_true (Nat.lt_of_lt_of_le (show 55 < 97 by decide) k1.1)
  have hm2 : (∃ F, h1.1 55 = .inr (11, F)) = True := eq_true (k1.obj (show 55 < 97 by decide) (hF_55 (f := f)))
  have hend := law_last g2
  refine ⟨h2, ?_, e3⟩
  obtain ⟨h1f, h1n, h1s⟩ := h1
  simp only [e116_1020, e116_1021, e116_1022, e116_1023, e116_1024, e116_1025, e116_1026, e116_1029, e116_1030, e116_1031, e116_1032, e116_1033, e116_1034, e116_1035, e116_1038, e116_1041, e116_1042, hF_16, hF_55, ald_s g0 (i := 1) (j := 1) (by decide) (by decide), ald_s g0 (i := 2) (j := 2) (by decide) (by decide), ald_s g0 (i := 3) (j := 3) (by decide) (by decide), ald_s g0 (i := 4) (j := 4) (by decide) (by decide), ald_s g0 (i := 5) (j := 5) (by decide) (by decide), ald_s g0 (i := 6) (j := 6) (by decide) (by decide), ald_s g1 (i := 1) (j := 1) (by decide) (by decide), ald_s g1 (i := 2) (j := 2) (by decide) (by decide), ald_s g1 (i := 3) (j := 3) (by decide) (by decide), ald_s g1 (i := 4) (j := 4) (by decide) (by decide), ald_s g1 (i := 5) (j := 5) (by decide) (by decide), ald_s g1 (i := 6) (j := 6) (by decide) (by decide), show (0 : Int32) + 1 = 1 from rfl, show (0 : Int32) + 2 = 2 from rfl, show (0 : Int32) + 3 = 3 from rfl, show (0 : Int32) + 4 = 4 from rfl, show (0 : Int32) + 5 = 5 from rfl, show (0 : Int32) + 6 = 6 from rfl, qMC_det e1, qMC_det e2, hm1, hm2, lg_self, eq_self, ↓reduceIte, qg_7, qg_8, qg_9, qg_10, qg_11, not_true_eq_false, not_false_eq_true, Nat.reduceBEq, Bool.false_eq_true, Nat.reduceMul, qg_0, qg_1, qg_2, qg_3, qg_4, qg_5, qg_6, ex1, ex3, ex4, qfit_i, qfit_l, qfit_r, qfit_n, qfit_b0, qfit_b1, qcat_i, qcat_r, qcat_n, qcat_l, qroom_0, qroom_c, List.map_cons, List.map_nil, List.sum_cons, List.sum_nil, Nat.reduceAdd, Nat.reduceLT, Nat.reduceLeDiff, Nat.reduceEqDiff, Nat.reduceSub, decide_true, true_and, and_true, and_self, if_true, if_false, Option.toList_some, Option.toList_none, List.cons_append, List.nil_append, qput_mk, qiast_mk, qup_at, exF, qnF0, qnF1, qnF2, qnF3, qnF4, qnF5, qnF6, qnF7, qnF8, qnF9, qnF10, qnF11]
  exact hend
set_option maxRecDepth 100000 in
set_option maxHeartbeats 8000000 in
theorem law_25 {f : Nat → qC} {xs : Nat → Int32} (h0 : f 0 = .inl (0, 7, .inl xs)) : ∃ h2, qEv 1000 3 qk_116 1043 [some (.ref 0), some (.ref 16), some (.ref 55), some (.int 0)] [] (hF f, 97, 78870) (some (.int 1), h2) ∧ h2.2 = (97, 78870) := by
  have hp : ∃ v, prI 46 98 [.int (xs 1), .int (xs 2)] (991 + 9) 78870 f v := pa_fresh
  obtain ⟨v, h1, e1, h2, e2, e3⟩ := hp
  have e1 : qMC 1000 46 [.ref 16, .int (xs 1), .int (xs 2)] (hF f, 97, 78870) (some (.int v), h1) := e1
  have e2 : qMC 1000 98 [.ref 55, .int (xs 1), .int (xs 2)] h1 (some (.int v), h2) := e2
  have k1 := e1.keep
  have k2 := e2.keep
  have g0 : hF f 0 = .inl (0, 7, .inl xs) := (hF_lo (by omega)).trans h0
  have g1 : h1.1 0 = .inl (0, 7, .inl xs) := (k1.2.2.2 (show 16 ≤ 97 by decide) 0 (by omega)).trans g0
  have g2 : h2.1 0 = .inl (0, 7, .inl xs) := (k2.2.2.2 (Nat.le_trans (show 16 ≤ 97 by decide) k1.1) 0 (by omega)).trans g1
  have hm1 : (55 < h1.2.1) = True := eq_true (Nat.lt_of_lt_of_le (show 55 < 97 by decide) k1.1)
  have hm2 : (∃ F, h1.1 55 = .inr (11, F)) = True := eq_true (k1.obj (show 55 < 97 by decide) (hF_55 (f := f)))
  have hend := law_last g2
  refine ⟨h2, ?_, e3⟩
  obtain ⟨h1f, h1n, h1s⟩ := h1
  simp only [e116_1043, e116_1044, e116_1045, e116_1046, e116_1047, e116_1048, e116_1049, e116_1050, e116_1051, e116_1052, e116_1053, e116_1054, e116_1057, e116_1058, e116_1059, e116_1060, e116_1061, e116_1062, e116_1063, e116_1064, e116_1065, e116_1066, e116_1067, e116_1068, e116_1071, e116_1074, e116_1075, hF_16, hF_55, ald_s g0 (i := 1) (j := 1) (by decide) (by decide), ald_s g0 (i := 2) (j := 2) (by decide) (by decide), ald_s g0 (i := 3) (j := 3) (by decide) (by decide), ald_s g0 (i := 4) (j := 4) (by decide) (by decide), ald_s g0 (i := 5) (j := 5) (by decide) (by decide), ald_s g0 (i := 6) (j := 6) (by decide) (by decide), ald_s g1 (i := 1) (j := 1) (by decide) (by decide), ald_s g1 (i := 2) (j := 2) (by decide) (by decide), ald_s g1 (i := 3) (j := 3) (by decide) (by decide), ald_s g1 (i := 4) (j := 4) (by decide) (by decide), ald_s g1 (i := 5) (j := 5) (by decide) (by decide), ald_s g1 (i := 6) (j := 6) (by decide) (by decide), show (0 : Int32) + 1 = 1 from rfl, show (0 : Int32) + 2 = 2 from rfl, show (0 : Int32) + 3 = 3 from rfl, show (0 : Int32) + 4 = 4 from rfl, show (0 : Int32) + 5 = 5 from rfl, show (0 : Int32) + 6 = 6 from rfl, qMC_det e1, qMC_det e2, hm1, hm2, lg_self, eq_self, ↓reduceIte, qg_7, qg_8, qg_9, qg_10, qg_11, not_true_eq_false, not_false_eq_true, Nat.reduceBEq, Bool.false_eq_true, Nat.reduceMul, qg_0, qg_1, qg_2, qg_3, qg_4, qg_5, qg_6, ex1, ex3, ex4, qfit_i, qfit_l, qfit_r, qfit_n, qfit_b0, qfit_b1, qcat_i, qcat_r, qcat_n, qcat_l, qroom_0, qroom_c, List.map_cons, List.map_nil, List.sum_cons, List.sum_nil, Nat.reduceAdd, Nat.reduceLT, Nat.reduceLeDiff, Nat.reduceEqDiff, Nat.reduceSub, decide_true, true_and, and_true, and_self, if_true, if_false, Option.toList_some, Option.toList_none, List.cons_append, List.nil_append, qput_mk, qiast_mk, qup_at, exF, qnF0, qnF1, qnF2, qnF3, qnF4, qnF5, qnF6, qnF7, qnF8, qnF9, qnF10, qnF11]
  exact hend
set_option maxRecDepth 100000 in
set_option maxHeartbeats 8000000 in
theorem law_26 {f : Nat → qC} {xs : Nat → Int32} (h0 : f 0 = .inl (0, 7, .inl xs)) : ∃ h2, qEv 1000 3 qk_116 1076 [some (.ref 0), some (.ref 16), some (.ref 55), some (.int 0)] [] (hF f, 97, 78870) (some (.int 1), h2) ∧ h2.2 = (97, 78870) := by
  have hp : ∃ v, prI 47 99 [.int (xs 1), .int (xs 2), .int (xs 3)] (991 + 9) 78870 f v := pa_walk
  obtain ⟨v, h1, e1, h2, e2, e3⟩ := hp
  have e1 : qMC 1000 47 [.ref 16, .int (xs 1), .int (xs 2), .int (xs 3)] (hF f, 97, 78870) (some (.int v), h1) := e1
  have e2 : qMC 1000 99 [.ref 55, .int (xs 1), .int (xs 2), .int (xs 3)] h1 (some (.int v), h2) := e2
  have k1 := e1.keep
  have k2 := e2.keep
  have g0 : hF f 0 = .inl (0, 7, .inl xs) := (hF_lo (by omega)).trans h0
  have g1 : h1.1 0 = .inl (0, 7, .inl xs) := (k1.2.2.2 (show 16 ≤ 97 by decide) 0 (by omega)).trans g0
  have g2 : h2.1 0 = .inl (0, 7, .inl xs) := (k2.2.2.2 (Nat.le_trans (show 16 ≤ 97 by decide) k1.1) 0 (by omega)).trans g1
  have hm1 : (55 < h1.2.1) = True := eq_true (Nat.lt_of_lt_of_le (show 55 < 97 by decide) k1.1)
  have hm2 : (∃ F, h1.1 55 = .inr (11, F)) = True := eq_true (k1.obj (show 55 < 97 by decide) (hF_55 (f := f)))
  have hend := law_last g2
  refine ⟨h2, ?_, e3⟩
  obtain ⟨h1f, h1n, h1s⟩ := h1
  simp only [e116_1076, e116_1077, e116_1078, e116_1079, e116_1080, e116_1081, e116_1082, e116_1083, e116_1084, e116_1085, e116_1086, e116_1087, e116_1088, e116_1089, e116_1090, e116_1091, e116_1092, e116_1095, e116_1096, e116_1097, e116_1098, e116_1099, e116_1100, e116_1101, e116_1102, e116_1103, e116_1104, e116_1105, e116_1106, e116_1107, e116_1108, e116_1109, e116_1110, e116_1111, e116_1114, e116_1117, e116_1118, hF_16, hF_55, ald_s g0 (i := 1) (j := 1) (by decide) (by decide), ald_s g0 (i := 2) (j := 2) (by decide) (by decide), ald_s g0 (i := 3) (j := 3) (by decide) (by decide), ald_s g0 (i := 4) (j := 4) (by decide) (by decide), ald_s g0 (i := 5) (j := 5) (by decide) (by decide), ald_s g0 (i := 6) (j := 6) (by decide) (by decide), ald_s g1 (i := 1) (j := 1) (by decide) (by decide), ald_s g1 (i := 2) (j := 2) (by decide) (by decide), ald_s g1 (i := 3) (j := 3) (by decide) (by decide), ald_s g1 (i := 4) (j := 4) (by decide) (by decide), ald_s g1 (i := 5) (j := 5) (by decide) (by decide), ald_s g1 (i := 6) (j := 6) (by decide) (by decide), show (0 : Int32) + 1 = 1 from rfl, show (0 : Int32) + 2 = 2 from rfl, show (0 : Int32) + 3 = 3 from rfl, show (0 : Int32) + 4 = 4 from rfl, show (0 : Int32) + 5 = 5 from rfl, show (0 : Int32) + 6 = 6 from rfl, qMC_det e1, qMC_det e2, hm1, hm2, lg_self, eq_self, ↓reduceIte, qg_7, qg_8, qg_9, qg_10, qg_11, not_true_eq_false, not_false_eq_true, Nat.reduceBEq, Bool.false_eq_true, Nat.reduceMul, qg_0, qg_1, qg_2, qg_3, qg_4, qg_5, qg_6, ex1, ex3, ex4, qfit_i, qfit_l, qfit_r, qfit_n, qfit_b0, qfit_b1, qcat_i, qcat_r, qcat_n, qcat_l, qroom_0, qroom_c, List.map_cons, List.map_nil, List.sum_cons, List.sum_nil, Nat.reduceAdd, Nat.reduceLT, Nat.reduceLeDiff, Nat.reduceEqDiff, Nat.reduceSub, decide_true, true_and, and_true, and_self, if_true, if_false, Option.toList_some, Option.toList_none, List.cons_append, List.nil_append, qput_mk, qiast_mk, qup_at, exF, qnF0, qnF1, qnF2, qnF3, qnF4, qnF5, qnF6, qnF7, qnF8, qnF9, qnF10, qnF11]
  exact hend
set_option maxRecDepth 100000 in
set_option maxHeartbeats 8000000 in
theorem law_27 {f : Nat → qC} {xs : Nat → Int32} (h0 : f 0 = .inl (0, 7, .inl xs)) : ∃ h2, qEv 1000 3 qk_116 1119 [some (.ref 0), some (.ref 16), some (.ref 55), some (.int 0)] [] (hF f, 97, 78870) (some (.int 1), h2) ∧ h2.2 = (97, 78870) := by
  have hp : ∃ v, prI 48 100 [.int (xs 1)] (991 + 9) 78870 f v := pa_far
  obtain ⟨v, h1, e1, h2, e2, e3⟩ := hp
  have e1 : qMC 1000 48 [.ref 16, .int (xs 1)] (hF f, 97, 78870) (some (.int v), h1) := e1
  have e2 : qMC 1000 100 [.ref 55, .int (xs 1)] h1 (some (.int v), h2) := e2
  have k1 := e1.keep
  have k2 := e2.keep
  have g0 : hF f 0 = .inl (0, 7, .inl xs) := (hF_lo (by omega)).trans h0
  have g1 : h1.1 0 = .inl (0, 7, .inl xs) := (k1.2.2.2 (show 16 ≤ 97 by decide) 0 (by omega)).trans g0
  have g2 : h2.1 0 = .inl (0, 7, .inl xs) := (k2.2.2.2 (Nat.le_trans (show 16 ≤ 97 by decide) k1.1) 0 (by omega)).trans g1
  have hm1 : (55 < h1.2.1) = True := eq_true (Nat.lt_of_lt_of_le (show 55 < 97 by decide) k1.1)
  have hm2 : (∃ F, h1.1 55 = .inr (11, F)) = True := eq_true (k1.obj (show 55 < 97 by decide) (hF_55 (f := f)))
  have hend := law_last g2
  refine ⟨h2, ?_, e3⟩
  obtain ⟨h1f, h1n, h1s⟩ := h1
  simp only [e116_1119, e116_1120, e116_1121, e116_1122, e116_1123, e116_1124, e116_1125, e116_1128, e116_1129, e116_1130, e116_1131, e116_1132, e116_1133, e116_1134, e116_1137, e116_1140, e116_1141, hF_16, hF_55, ald_s g0 (i := 1) (j := 1) (by decide) (by decide), ald_s g0 (i := 2) (j := 2) (by decide) (by decide), ald_s g0 (i := 3) (j := 3) (by decide) (by decide), ald_s g0 (i := 4) (j := 4) (by decide) (by decide), ald_s g0 (i := 5) (j := 5) (by decide) (by decide), ald_s g0 (i := 6) (j := 6) (by decide) (by decide), ald_s g1 (i := 1) (j := 1) (by decide) (by decide), ald_s g1 (i := 2) (j := 2) (by decide) (by decide), ald_s g1 (i := 3) (j := 3) (by decide) (by decide), ald_s g1 (i := 4) (j := 4) (by decide) (by decide), ald_s g1 (i := 5) (j := 5) (by decide) (by decide), ald_s g1 (i := 6) (j := 6) (by decide) (by decide), show (0 : Int32) + 1 = 1 from rfl, show (0 : Int32) + 2 = 2 from rfl, show (0 : Int32) + 3 = 3 from rfl, show (0 : Int32) + 4 = 4 from rfl, show (0 : Int32) + 5 = 5 from rfl, show (0 : Int32) + 6 = 6 from rfl, qMC_det e1, qMC_det e2, hm1, hm2, lg_self, eq_self, ↓reduceIte, qg_7, qg_8, qg_9, qg_10, qg_11, not_true_eq_false, not_false_eq_true, Nat.reduceBEq, Bool.false_eq_true, Nat.reduceMul, qg_0, qg_1, qg_2, qg_3, qg_4, qg_5, qg_6, ex1, ex3, ex4, qfit_i, qfit_l, qfit_r, qfit_n, qfit_b0, qfit_b1, qcat_i, qcat_r, qcat_n, qcat_l, qroom_0, qroom_c, List.map_cons, List.map_nil, List.sum_cons, List.sum_nil, Nat.reduceAdd, Nat.reduceLT, Nat.reduceLeDiff, Nat.reduceEqDiff, Nat.reduceSub, decide_true, true_and, and_true, and_self, if_true, if_false, Option.toList_some, Option.toList_none, List.cons_append, List.nil_append, qput_mk, qiast_mk, qup_at, exF, qnF0, qnF1, qnF2, qnF3, qnF4, qnF5, qnF6, qnF7, qnF8, qnF9, qnF10, qnF11]
  exact hend
set_option maxRecDepth 100000 in
set_option maxHeartbeats 8000000 in
theorem law_28 {f : Nat → qC} {xs : Nat → Int32} (h0 : f 0 = .inl (0, 7, .inl xs)) : ∃ h2, qEv 1000 3 qk_116 1142 [some (.ref 0), some (.ref 16), some (.ref 55), some (.int 0)] [] (hF f, 97, 78870) (some (.int 1), h2) ∧ h2.2 = (97, 78870) := by
  have hp : ∃ v, prI 49 101 [.int (xs 1), .int (xs 2), .int (xs 3), .int (xs 4)] (991 + 9) 78870 f v := pa_tilt
  obtain ⟨v, h1, e1, h2, e2, e3⟩ := hp
  have e1 : qMC 1000 49 [.ref 16, .int (xs 1), .int (xs 2), .int (xs 3), .int (xs 4)] (hF f, 97, 78870) (some (.int v), h1) := e1
  have e2 : qMC 1000 101 [.ref 55, .int (xs 1), .int (xs 2), .int (xs 3), .int (xs 4)] h1 (some (.int v), h2) := e2
  have k1 := e1.keep
  have k2 := e2.keep
  have g0 : hF f 0 = .inl (0, 7, .inl xs) := (hF_lo (by omega)).trans h0
  have g1 : h1.1 0 = .inl (0, 7, .inl xs) := (k1.2.2.2 (show 16 ≤ 97 by decide) 0 (by omega)).trans g0
  have g2 : h2.1 0 = .inl (0, 7, .inl xs) := (k2.2.2.2 (Nat.le_trans (show 16 ≤ 97 by decide) k1.1) 0 (by omega)).trans g1
  have hm1 : (55 < h1.2.1) = True := eq_true (Nat.lt_of_lt_of_le (show 55 < 97 by decide) k1.1)
  have hm2 : (∃ F, h1.1 55 = .inr (11, F)) = True := eq_true (k1.obj (show 55 < 97 by decide) (hF_55 (f := f)))
  have hend := law_last g2
  refine ⟨h2, ?_, e3⟩
  obtain ⟨h1f, h1n, h1s⟩ := h1
  simp only [e116_1142, e116_1143, e116_1144, e116_1145, e116_1146, e116_1147, e116_1148, e116_1149, e116_1150, e116_1151, e116_1152, e116_1153, e116_1154, e116_1155, e116_1156, e116_1157, e116_1158, e116_1159, e116_1160, e116_1161, e116_1162, e116_1163, e116_1166, e116_1167, e116_1168, e116_1169, e116_1170, e116_1171, e116_1172, e116_1173, e116_1174, e116_1175, e116_1176, e116_1177, e116_1178, e116_1179, e116_1180, e116_1181, e116_1182, e116_1183, e116_1184, e116_1185, e116_1186, e116_1187, e116_1190, e116_1193, e116_1194, hF_16, hF_55, ald_s g0 (i := 1) (j := 1) (by decide) (by decide), ald_s g0 (i := 2) (j := 2) (by decide) (by decide), ald_s g0 (i := 3) (j := 3) (by decide) (by decide), ald_s g0 (i := 4) (j := 4) (by decide) (by decide), ald_s g0 (i := 5) (j := 5) (by decide) (by decide), ald_s g0 (i := 6) (j := 6) (by decide) (by decide), ald_s g1 (i := 1) (j := 1) (by decide) (by decide), ald_s g1 (i := 2) (j := 2) (by decide) (by decide), ald_s g1 (i := 3) (j := 3) (by decide) (by decide), ald_s g1 (i := 4) (j := 4) (by decide) (by decide), ald_s g1 (i := 5) (j := 5) (by decide) (by decide), ald_s g1 (i := 6) (j := 6) (by decide) (by decide), show (0 : Int32) + 1 = 1 from rfl, show (0 : Int32) + 2 = 2 from rfl, show (0 : Int32) + 3 = 3 from rfl, show (0 : Int32) + 4 = 4 from rfl, show (0 : Int32) + 5 = 5 from rfl, show (0 : Int32) + 6 = 6 from rfl, qMC_det e1, qMC_det e2, hm1, hm2, lg_self, eq_self, ↓reduceIte, qg_7, qg_8, qg_9, qg_10, qg_11, not_true_eq_false, not_false_eq_true, Nat.reduceBEq, Bool.false_eq_true, Nat.reduceMul, qg_0, qg_1, qg_2, qg_3, qg_4, qg_5, qg_6, ex1, ex3, ex4, qfit_i, qfit_l, qfit_r, qfit_n, qfit_b0, qfit_b1, qcat_i, qcat_r, qcat_n, qcat_l, qroom_0, qroom_c, List.map_cons, List.map_nil, List.sum_cons, List.sum_nil, Nat.reduceAdd, Nat.reduceLT, Nat.reduceLeDiff, Nat.reduceEqDiff, Nat.reduceSub, decide_true, true_and, and_true, and_self, if_true, if_false, Option.toList_some, Option.toList_none, List.cons_append, List.nil_append, qput_mk, qiast_mk, qup_at, exF, qnF0, qnF1, qnF2, qnF3, qnF4, qnF5, qnF6, qnF7, qnF8, qnF9, qnF10, qnF11]
  exact hend
set_option maxRecDepth 100000 in
set_option maxHeartbeats 8000000 in
theorem law_29 {f : Nat → qC} {xs : Nat → Int32} (h0 : f 0 = .inl (0, 7, .inl xs)) : ∃ h2, qEv 1000 3 qk_116 1195 [some (.ref 0), some (.ref 16), some (.ref 55), some (.int 0)] [] (hF f, 97, 78870) (some (.int 1), h2) ∧ h2.2 = (97, 78870) := by
  have hp : ∃ v, prI 50 102 [.int (xs 1), .int (xs 2), .int (xs 3)] (991 + 9) 78870 f v := pa_up
  obtain ⟨v, h1, e1, h2, e2, e3⟩ := hp
  have e1 : qMC 1000 50 [.ref 16, .int (xs 1), .int (xs 2), .int (xs 3)] (hF f, 97, 78870) (some (.int v), h1) := e1
  have e2 : qMC 1000 102 [.ref 55, .int (xs 1), .int (xs 2), .int (xs 3)] h1 (some (.int v), h2) := e2
  have k1 := e1.keep
  have k2 := e2.keep
  have g0 : hF f 0 = .inl (0, 7, .inl xs) := (hF_lo (by omega)).trans h0
  have g1 : h1.1 0 = .inl (0, 7, .inl xs) := (k1.2.2.2 (show 16 ≤ 97 by decide) 0 (by omega)).trans g0
  have g2 : h2.1 0 = .inl (0, 7, .inl xs) := (k2.2.2.2 (Nat.le_trans (show 16 ≤ 97 by decide) k1.1) 0 (by omega)).trans g1
  have hm1 : (55 < h1.2.1) = True := eq_true (Nat.lt_of_lt_of_le (show 55 < 97 by decide) k1.1)
  have hm2 : (∃ F, h1.1 55 = .inr (11, F)) = True := eq_true (k1.obj (show 55 < 97 by decide) (hF_55 (f := f)))
  have hend := law_last g2
  refine ⟨h2, ?_, e3⟩
  obtain ⟨h1f, h1n, h1s⟩ := h1
  simp only [e116_1195, e116_1196, e116_1197, e116_1198, e116_1199, e116_1200, e116_1201, e116_1202, e116_1203, e116_1204, e116_1205, e116_1206, e116_1207, e116_1208, e116_1209, e116_1210, e116_1211, e116_1214, e116_1215, e116_1216, e116_1217, e116_1218, e116_1219, e116_1220, e116_1221, e116_1222, e116_1223, e116_1224, e116_1225, e116_1226, e116_1227, e116_1228, e116_1229, e116_1230, e116_1233, e116_1236, e116_1237, hF_16, hF_55, ald_s g0 (i := 1) (j := 1) (by decide) (by decide), ald_s g0 (i := 2) (j := 2) (by decide) (by decide), ald_s g0 (i := 3) (j := 3) (by decide) (by decide), ald_s g0 (i := 4) (j := 4) (by decide) (by decide), ald_s g0 (i := 5) (j := 5) (by decide) (by decide), ald_s g0 (i := 6) (j := 6) (by decide) (by decide), ald_s g1 (i := 1) (j := 1) (by decide) (by decide), ald_s g1 (i := 2) (j := 2) (by decide) (by decide), ald_s g1 (i := 3) (j := 3) (by decide) (by decide), ald_s g1 (i := 4) (j := 4) (by decide) (by decide), ald_s g1 (i := 5) (j := 5) (by decide) (by decide), ald_s g1 (i := 6) (j := 6) (by decide) (by decide), show (0 : Int32) + 1 = 1 from rfl, show (0 : Int32) + 2 = 2 from rfl, show (0 : Int32) + 3 = 3 from rfl, show (0 : Int32) + 4 = 4 from rfl, show (0 : Int32) + 5 = 5 from rfl, show (0 : Int32) + 6 = 6 from rfl, qMC_det e1, qMC_det e2, hm1, hm2, lg_self, eq_self, ↓reduceIte, qg_7, qg_8, qg_9, qg_10, qg_11, not_true_eq_false, not_false_eq_true, Nat.reduceBEq, Bool.false_eq_true, Nat.reduceMul, qg_0, qg_1, qg_2, qg_3, qg_4, qg_5, qg_6, ex1, ex3, ex4, qfit_i, qfit_l, qfit_r, qfit_n, qfit_b0, qfit_b1, qcat_i, qcat_r, qcat_n, qcat_l, qroom_0, qroom_c, List.map_cons, List.map_nil, List.sum_cons, List.sum_nil, Nat.reduceAdd, Nat.reduceLT, Nat.reduceLeDiff, Nat.reduceEqDiff, Nat.reduceSub, decide_true, true_and, and_true, and_self, if_true, if_false, Option.toList_some, Option.toList_none, List.cons_append, List.nil_append, qput_mk, qiast_mk, qup_at, exF, qnF0, qnF1, qnF2, qnF3, qnF4, qnF5, qnF6, qnF7, qnF8, qnF9, qnF10, qnF11]
  exact hend
set_option maxRecDepth 100000 in
set_option maxHeartbeats 8000000 in
theorem law_30 {f : Nat → qC} {xs : Nat → Int32} (h0 : f 0 = .inl (0, 7, .inl xs)) : ∃ h2, qEv 1000 3 qk_116 1238 [some (.ref 0), some (.ref 16), some (.ref 55), some (.int 0)] [] (hF f, 97, 78870) (some (.int 1), h2) ∧ h2.2 = (97, 78870) := by
  have hp : ∃ v, prL 51 103 [.int (xs 1), .int (xs 2), .int (xs 3)] (991 + 9) 78870 f v := pa_ups
  obtain ⟨v, h1, e1, h2, e2, e3⟩ := hp
  have e1 : qMC 1000 51 [.ref 16, .int (xs 1), .int (xs 2), .int (xs 3)] (hF f, 97, 78870) (some (.long v), h1) := e1
  have e2 : qMC 1000 103 [.ref 55, .int (xs 1), .int (xs 2), .int (xs 3)] h1 (some (.long v), h2) := e2
  have k1 := e1.keep
  have k2 := e2.keep
  have g0 : hF f 0 = .inl (0, 7, .inl xs) := (hF_lo (by omega)).trans h0
  have g1 : h1.1 0 = .inl (0, 7, .inl xs) := (k1.2.2.2 (show 16 ≤ 97 by decide) 0 (by omega)).trans g0
  have g2 : h2.1 0 = .inl (0, 7, .inl xs) := (k2.2.2.2 (Nat.le_trans (show 16 ≤ 97 by decide) k1.1) 0 (by omega)).trans g1
  have hm1 : (55 < h1.2.1) = True := eq_true (Nat.lt_of_lt_of_le (show 55 < 97 by decide) k1.1)
  have hm2 : (∃ F, h1.1 55 = .inr (11, F)) = True := eq_true (k1.obj (show 55 < 97 by decide) (hF_55 (f := f)))
  have hend := law_last g2
  refine ⟨h2, ?_, e3⟩
  obtain ⟨h1f, h1n, h1s⟩ := h1
  simp only [e116_1238, e116_1239, e116_1240, e116_1241, e116_1242, e116_1243, e116_1244, e116_1245, e116_1246, e116_1247, e116_1248, e116_1249, e116_1250, e116_1251, e116_1252, e116_1253, e116_1254, e116_1257, e116_1258, e116_1259, e116_1260, e116_1261, e116_1262, e116_1263, e116_1264, e116_1265, e116_1266, e116_1267, e116_1268, e116_1269, e116_1270, e116_1271, e116_1272, e116_1273, e116_1276, e116_1277, e116_1280, e116_1281, hF_16, hF_55, ald_s g0 (i := 1) (j := 1) (by decide) (by decide), ald_s g0 (i := 2) (j := 2) (by decide) (by decide), ald_s g0 (i := 3) (j := 3) (by decide) (by decide), ald_s g0 (i := 4) (j := 4) (by decide) (by decide), ald_s g0 (i := 5) (j := 5) (by decide) (by decide), ald_s g0 (i := 6) (j := 6) (by decide) (by decide), ald_s g1 (i := 1) (j := 1) (by decide) (by decide), ald_s g1 (i := 2) (j := 2) (by decide) (by decide), ald_s g1 (i := 3) (j := 3) (by decide) (by decide), ald_s g1 (i := 4) (j := 4) (by decide) (by decide), ald_s g1 (i := 5) (j := 5) (by decide) (by decide), ald_s g1 (i := 6) (j := 6) (by decide) (by decide), show (0 : Int32) + 1 = 1 from rfl, show (0 : Int32) + 2 = 2 from rfl, show (0 : Int32) + 3 = 3 from rfl, show (0 : Int32) + 4 = 4 from rfl, show (0 : Int32) + 5 = 5 from rfl, show (0 : Int32) + 6 = 6 from rfl, qMC_det e1, qMC_det e2, hm1, hm2, lg_self, eq_self, ↓reduceIte, qg_7, qg_8, qg_9, qg_10, qg_11, not_true_eq_false, not_false_eq_true, Nat.reduceBEq, Bool.false_eq_true, Nat.reduceMul, qg_0, qg_1, qg_2, qg_3, qg_4, qg_5, qg_6, ex1, ex3, ex4, qfit_i, qfit_l, qfit_r, qfit_n, qfit_b0, qfit_b1, qcat_i, qcat_r, qcat_n, qcat_l, qroom_0, qroom_c, List.map_cons, List.map_nil, List.sum_cons, List.sum_nil, Nat.reduceAdd, Nat.reduceLT, Nat.reduceLeDiff, Nat.reduceEqDiff, Nat.reduceSub, decide_true, true_and, and_true, and_self, if_true, if_false, Option.toList_some, Option.toList_none, List.cons_append, List.nil_append, qput_mk, qiast_mk, qup_at, exF, qnF0, qnF1, qnF2, qnF3, qnF4, qnF5, qnF6, qnF7, qnF8, qnF9, qnF10, qnF11]
  exact hend
set_option maxRecDepth 100000 in
set_option maxHeartbeats 8000000 in
theorem law_31 {f : Nat → qC} {xs : Nat → Int32} (h0 : f 0 = .inl (0, 7, .inl xs)) : ∃ h2, qEv 1000 3 qk_116 1282 [some (.ref 0), some (.ref 16), some (.ref 55), some (.int 0)] [] (hF f, 97, 78870) (some (.int 1), h2) ∧ h2.2 = (97, 78870) := by
  have hp : ∃ v, prI 52 104 [.int (xs 1), .int (xs 2)] (991 + 9) 78870 f v := pa_ring
  obtain ⟨v, h1, e1, h2, e2, e3⟩ := hp
  have e1 : qMC 1000 52 [.ref 16, .int (xs 1), .int (xs 2)] (hF f, 97, 78870) (some (.int v), h1) := e1
  have e2 : qMC 1000 104 [.ref 55, .int (xs 1), .int (xs 2)] h1 (some (.int v), h2) := e2
  have k1 := e1.keep
  have k2 := e2.keep
  have g0 : hF f 0 = .inl (0, 7, .inl xs) := (hF_lo (by omega)).trans h0
  have g1 : h1.1 0 = .inl (0, 7, .inl xs) := (k1.2.2.2 (show 16 ≤ 97 by decide) 0 (by omega)).trans g0
  have g2 : h2.1 0 = .inl (0, 7, .inl xs) := (k2.2.2.2 (Nat.le_trans (show 16 ≤ 97 by decide) k1.1) 0 (by omega)).trans g1
  have hm1 : (55 < h1.2.1) = True := eq_true (Nat.lt_of_lt_of_le (show 55 < 97 by decide) k1.1)
  have hm2 : (∃ F, h1.1 55 = .inr (11, F)) = True := eq_true (k1.obj (show 55 < 97 by decide) (hF_55 (f := f)))
  have hend := law_last g2
  refine ⟨h2, ?_, e3⟩
  obtain ⟨h1f, h1n, h1s⟩ := h1
  simp only [e116_1282, e116_1283, e116_1284, e116_1285, e116_1286, e116_1287, e116_1288, e116_1289, e116_1290, e116_1291, e116_1292, e116_1293, e116_1296, e116_1297, e116_1298, e116_1299, e116_1300, e116_1301, e116_1302, e116_1303, e116_1304, e116_1305, e116_1306, e116_1307, e116_1310, e116_1313, e116_1314, hF_16, hF_55, ald_s g0 (i := 1) (j := 1) (by decide) (by decide), ald_s g0 (i := 2) (j := 2) (by decide) (by decide), ald_s g0 (i := 3) (j := 3) (by decide) (by decide), ald_s g0 (i := 4) (j := 4) (by decide) (by decide), ald_s g0 (i := 5) (j := 5) (by decide) (by decide), ald_s g0 (i := 6) (j := 6) (by decide) (by decide), ald_s g1 (i := 1) (j := 1) (by decide) (by decide), ald_s g1 (i := 2) (j := 2) (by decide) (by decide), ald_s g1 (i := 3) (j := 3) (by decide) (by decide), ald_s g1 (i := 4) (j := 4) (by decide) (by decide), ald_s g1 (i := 5) (j := 5) (by decide) (by decide), ald_s g1 (i := 6) (j := 6) (by decide) (by decide), show (0 : Int32) + 1 = 1 from rfl, show (0 : Int32) + 2 = 2 from rfl, show (0 : Int32) + 3 = 3 from rfl, show (0 : Int32) + 4 = 4 from rfl, show (0 : Int32) + 5 = 5 from rfl, show (0 : Int32) + 6 = 6 from rfl, qMC_det e1, qMC_det e2, hm1, hm2, lg_self, eq_self, ↓reduceIte, qg_7, qg_8, qg_9, qg_10, qg_11, not_true_eq_false, not_false_eq_true, Nat.reduceBEq, Bool.false_eq_true, Nat.reduceMul, qg_0, qg_1, qg_2, qg_3, qg_4, qg_5, qg_6, ex1, ex3, ex4, qfit_i, qfit_l, qfit_r, qfit_n, qfit_b0, qfit_b1, qcat_i, qcat_r, qcat_n, qcat_l, qroom_0, qroom_c, List.map_cons, List.map_nil, List.sum_cons, List.sum_nil, Nat.reduceAdd, Nat.reduceLT, Nat.reduceLeDiff, Nat.reduceEqDiff, Nat.reduceSub, decide_true, true_and, and_true, and_self, if_true, if_false, Option.toList_some, Option.toList_none, List.cons_append, List.nil_append, qput_mk, qiast_mk, qup_at, exF, qnF0, qnF1, qnF2, qnF3, qnF4, qnF5, qnF6, qnF7, qnF8, qnF9, qnF10, qnF11]
  exact hend
set_option maxRecDepth 100000 in
set_option maxHeartbeats 8000000 in
theorem law_32 {f : Nat → qC} {xs : Nat → Int32} (h0 : f 0 = .inl (0, 7, .inl xs)) : ∃ h2, qEv 1000 3 qk_116 1315 [some (.ref 0), some (.ref 16), some (.ref 55), some (.int 0)] [] (hF f, 97, 78870) (some (.int 1), h2) ∧ h2.2 = (97, 78870) := by
  have hp : ∃ v, prI 53 105 [.int (xs 1)] (991 + 9) 78870 f v := pa_where
  obtain ⟨v, h1, e1, h2, e2, e3⟩ := hp
  have e1 : qMC 1000 53 [.ref 16, .int (xs 1)] (hF f, 97, 78870) (some (.int v), h1) := e1
  have e2 : qMC 1000 105 [.ref 55, .int (xs 1)] h1 (some (.int v), h2) := e2
  have k1 := e1.keep
  have k2 := e2.keep
  have g0 : hF f 0 = .inl (0, 7, .inl xs) := (hF_lo (by omega)).trans h0
  have g1 : h1.1 0 = .inl (0, 7, .inl xs) := (k1.2.2.2 (show 16 ≤ 97 by decide) 0 (by omega)).trans g0
  have g2 : h2.1 0 = .inl (0, 7, .inl xs) := (k2.2.2.2 (Nat.le_trans (show 16 ≤ 97 by decide) k1.1) 0 (by omega)).trans g1
  have hm1 : (55 < h1.2.1) = True := eq_true (Nat.lt_of_lt_of_le (show 55 < 97 by decide) k1.1)
  have hm2 : (∃ F, h1.1 55 = .inr (11, F)) = True := eq_true (k1.obj (show 55 < 97 by decide) (hF_55 (f := f)))
  have hend := law_last g2
  refine ⟨h2, ?_, e3⟩
  obtain ⟨h1f, h1n, h1s⟩ := h1
  simp only [e116_1315, e116_1316, e116_1317, e116_1318, e116_1319, e116_1320, e116_1321, e116_1324, e116_1325, e116_1326, e116_1327, e116_1328, e116_1329, e116_1330, e116_1333, e116_1336, e116_1337, hF_16, hF_55, ald_s g0 (i := 1) (j := 1) (by decide) (by decide), ald_s g0 (i := 2) (j := 2) (by decide) (by decide), ald_s g0 (i := 3) (j := 3) (by decide) (by decide), ald_s g0 (i := 4) (j := 4) (by decide) (by decide), ald_s g0 (i := 5) (j := 5) (by decide) (by decide), ald_s g0 (i := 6) (j := 6) (by decide) (by decide), ald_s g1 (i := 1) (j := 1) (by decide) (by decide), ald_s g1 (i := 2) (j := 2) (by decide) (by decide), ald_s g1 (i := 3) (j := 3) (by decide) (by decide), ald_s g1 (i := 4) (j := 4) (by decide) (by decide), ald_s g1 (i := 5) (j := 5) (by decide) (by decide), ald_s g1 (i := 6) (j := 6) (by decide) (by decide), show (0 : Int32) + 1 = 1 from rfl, show (0 : Int32) + 2 = 2 from rfl, show (0 : Int32) + 3 = 3 from rfl, show (0 : Int32) + 4 = 4 from rfl, show (0 : Int32) + 5 = 5 from rfl, show (0 : Int32) + 6 = 6 from rfl, qMC_det e1, qMC_det e2, hm1, hm2, lg_self, eq_self, ↓reduceIte, qg_7, qg_8, qg_9, qg_10, qg_11, not_true_eq_false, not_false_eq_true, Nat.reduceBEq, Bool.false_eq_true, Nat.reduceMul, qg_0, qg_1, qg_2, qg_3, qg_4, qg_5, qg_6, ex1, ex3, ex4, qfit_i, qfit_l, qfit_r, qfit_n, qfit_b0, qfit_b1, qcat_i, qcat_r, qcat_n, qcat_l, qroom_0, qroom_c, List.map_cons, List.map_nil, List.sum_cons, List.sum_nil, Nat.reduceAdd, Nat.reduceLT, Nat.reduceLeDiff, Nat.reduceEqDiff, Nat.reduceSub, decide_true, true_and, and_true, and_self, if_true, if_false, Option.toList_some, Option.toList_none, List.cons_append, List.nil_append, qput_mk, qiast_mk, qup_at, exF, qnF0, qnF1, qnF2, qnF3, qnF4, qnF5, qnF6, qnF7, qnF8, qnF9, qnF10, qnF11]
  exact hend
set_option maxRecDepth 100000 in
set_option maxHeartbeats 8000000 in
theorem law_33 {f : Nat → qC} {xs : Nat → Int32} (h0 : f 0 = .inl (0, 7, .inl xs)) : ∃ h2, qEv 1000 3 qk_116 1338 [some (.ref 0), some (.ref 16), some (.ref 55), some (.int 0)] [] (hF f, 97, 78870) (some (.int 1), h2) ∧ h2.2 = (97, 78870) := by
  have hp : ∃ v, prI 54 106 [.int (xs 1)] (991 + 9) 78870 f v := pa_parted
  obtain ⟨v, h1, e1, h2, e2, e3⟩ := hp
  have e1 : qMC 1000 54 [.ref 16, .int (xs 1)] (hF f, 97, 78870) (some (.int v), h1) := e1
  have e2 : qMC 1000 106 [.ref 55, .int (xs 1)] h1 (some (.int v), h2) := e2
  have k1 := e1.keep
  have k2 := e2.keep
  have g0 : hF f 0 = .inl (0, 7, .inl xs) := (hF_lo (by omega)).trans h0
  have g1 : h1.1 0 = .inl (0, 7, .inl xs) := (k1.2.2.2 (show 16 ≤ 97 by decide) 0 (by omega)).trans g0
  have g2 : h2.1 0 = .inl (0, 7, .inl xs) := (k2.2.2.2 (Nat.le_trans (show 16 ≤ 97 by decide) k1.1) 0 (by omega)).trans g1
  have hm1 : (55 < h1.2.1) = True := eq_true (Nat.lt_of_lt_of_le (show 55 < 97 by decide) k1.1)
  have hm2 : (∃ F, h1.1 55 = .inr (11, F)) = True := eq_true (k1.obj (show 55 < 97 by decide) (hF_55 (f := f)))
  have hend := law_last g2
  refine ⟨h2, ?_, e3⟩
  obtain ⟨h1f, h1n, h1s⟩ := h1
  simp only [e116_1338, e116_1339, e116_1340, e116_1341, e116_1342, e116_1343, e116_1344, e116_1347, e116_1348, e116_1349, e116_1350, e116_1351, e116_1352, e116_1353, e116_1356, e116_1359, e116_1360, hF_16, hF_55, ald_s g0 (i := 1) (j := 1) (by decide) (by decide), ald_s g0 (i := 2) (j := 2) (by decide) (by decide), ald_s g0 (i := 3) (j := 3) (by decide) (by decide), ald_s g0 (i := 4) (j := 4) (by decide) (by decide), ald_s g0 (i := 5) (j := 5) (by decide) (by decide), ald_s g0 (i := 6) (j := 6) (by decide) (by decide), ald_s g1 (i := 1) (j := 1) (by decide) (by decide), ald_s g1 (i := 2) (j := 2) (by decide) (by decide), ald_s g1 (i := 3) (j := 3) (by decide) (by decide), ald_s g1 (i := 4) (j := 4) (by decide) (by decide), ald_s g1 (i := 5) (j := 5) (by decide) (by decide), ald_s g1 (i := 6) (j := 6) (by decide) (by decide), show (0 : Int32) + 1 = 1 from rfl, show (0 : Int32) + 2 = 2 from rfl, show (0 : Int32) + 3 = 3 from rfl, show (0 : Int32) + 4 = 4 from rfl, show (0 : Int32) + 5 = 5 from rfl, show (0 : Int32) + 6 = 6 from rfl, qMC_det e1, qMC_det e2, hm1, hm2, lg_self, eq_self, ↓reduceIte, qg_7, qg_8, qg_9, qg_10, qg_11, not_true_eq_false, not_false_eq_true, Nat.reduceBEq, Bool.false_eq_true, Nat.reduceMul, qg_0, qg_1, qg_2, qg_3, qg_4, qg_5, qg_6, ex1, ex3, ex4, qfit_i, qfit_l, qfit_r, qfit_n, qfit_b0, qfit_b1, qcat_i, qcat_r, qcat_n, qcat_l, qroom_0, qroom_c, List.map_cons, List.map_nil, List.sum_cons, List.sum_nil, Nat.reduceAdd, Nat.reduceLT, Nat.reduceLeDiff, Nat.reduceEqDiff, Nat.reduceSub, decide_true, true_and, and_true, and_self, if_true, if_false, Option.toList_some, Option.toList_none, List.cons_append, List.nil_append, qput_mk, qiast_mk, qup_at, exF, qnF0, qnF1, qnF2, qnF3, qnF4, qnF5, qnF6, qnF7, qnF8, qnF9, qnF10, qnF11]
  exact hend
set_option maxRecDepth 100000 in
set_option maxHeartbeats 8000000 in
theorem law_34 {f : Nat → qC} {xs : Nat → Int32} (h0 : f 0 = .inl (0, 7, .inl xs)) : ∃ h2, qEv 1000 3 qk_116 1361 [some (.ref 0), some (.ref 16), some (.ref 55), some (.int 0)] [] (hF f, 97, 78870) (some (.int 1), h2) ∧ h2.2 = (97, 78870) := by
  have hp : ∃ v, prI 55 107 [.int (xs 1), .int (xs 2)] (991 + 9) 78870 f v := pa_holds
  obtain ⟨v, h1, e1, h2, e2, e3⟩ := hp
  have e1 : qMC 1000 55 [.ref 16, .int (xs 1), .int (xs 2)] (hF f, 97, 78870) (some (.int v), h1) := e1
  have e2 : qMC 1000 107 [.ref 55, .int (xs 1), .int (xs 2)] h1 (some (.int v), h2) := e2
  have k1 := e1.keep
  have k2 := e2.keep
  have g0 : hF f 0 = .inl (0, 7, .inl xs) := (hF_lo (by omega)).trans h0
  have g1 : h1.1 0 = .inl (0, 7, .inl xs) := (k1.2.2.2 (show 16 ≤ 97 by decide) 0 (by omega)).trans g0
  have g2 : h2.1 0 = .inl (0, 7, .inl xs) := (k2.2.2.2 (Nat.le_trans (show 16 ≤ 97 by decide) k1.1) 0 (by omega)).trans g1
  have hm1 : (55 < h1.2.1) = True := eq_true (Nat.lt_of_lt_of_le (show 55 < 97 by decide) k1.1)
  have hm2 : (∃ F, h1.1 55 = .inr (11, F)) = True := eq_true (k1.obj (show 55 < 97 by decide) (hF_55 (f := f)))
  have hend := law_last g2
  refine ⟨h2, ?_, e3⟩
  obtain ⟨h1f, h1n, h1s⟩ := h1
  simp only [e116_1361, e116_1362, e116_1363, e116_1364, e116_1365, e116_1366, e116_1367, e116_1368, e116_1369, e116_1370, e116_1371, e116_1372, e116_1375, e116_1376, e116_1377, e116_1378, e116_1379, e116_1380, e116_1381, e116_1382, e116_1383, e116_1384, e116_1385, e116_1386, e116_1389, e116_1392, e116_1393, hF_16, hF_55, ald_s g0 (i := 1) (j := 1) (by decide) (by decide), ald_s g0 (i := 2) (j := 2) (by decide) (by decide), ald_s g0 (i := 3) (j := 3) (by decide) (by decide), ald_s g0 (i := 4) (j := 4) (by decide) (by decide), ald_s g0 (i := 5) (j := 5) (by decide) (by decide), ald_s g0 (i := 6) (j := 6) (by decide) (by decide), ald_s g1 (i := 1) (j := 1) (by decide) (by decide), ald_s g1 (i := 2) (j := 2) (by decide) (by decide), ald_s g1 (i := 3) (j := 3) (by decide) (by decide), ald_s g1 (i := 4) (j := 4) (by decide) (by decide), ald_s g1 (i := 5) (j := 5) (by decide) (by decide), ald_s g1 (i := 6) (j := 6) (by decide) (by decide), show (0 : Int32) + 1 = 1 from rfl, show (0 : Int32) + 2 = 2 from rfl, show (0 : Int32) + 3 = 3 from rfl, show (0 : Int32) + 4 = 4 from rfl, show (0 : Int32) + 5 = 5 from rfl, show (0 : Int32) + 6 = 6 from rfl, qMC_det e1, qMC_det e2, hm1, hm2, lg_self, eq_self, ↓reduceIte, qg_7, qg_8, qg_9, qg_10, qg_11, not_true_eq_false, not_false_eq_true, Nat.reduceBEq, Bool.false_eq_true, Nat.reduceMul, qg_0, qg_1, qg_2, qg_3, qg_4, qg_5, qg_6, ex1, ex3, ex4, qfit_i, qfit_l, qfit_r, qfit_n, qfit_b0, qfit_b1, qcat_i, qcat_r, qcat_n, qcat_l, qroom_0, qroom_c, List.map_cons, List.map_nil, List.sum_cons, List.sum_nil, Nat.reduceAdd, Nat.reduceLT, Nat.reduceLeDiff, Nat.reduceEqDiff, Nat.reduceSub, decide_true, true_and, and_true, and_self, if_true, if_false, Option.toList_some, Option.toList_none, List.cons_append, List.nil_append, qput_mk, qiast_mk, qup_at, exF, qnF0, qnF1, qnF2, qnF3, qnF4, qnF5, qnF6, qnF7, qnF8, qnF9, qnF10, qnF11]
  exact hend
set_option maxRecDepth 100000 in
set_option maxHeartbeats 8000000 in
theorem law_35 {f : Nat → qC} {xs : Nat → Int32} (h0 : f 0 = .inl (0, 7, .inl xs)) : ∃ h2, qEv 1000 3 qk_116 1394 [some (.ref 0), some (.ref 16), some (.ref 55), some (.int 0)] [] (hF f, 97, 78870) (some (.int 1), h2) ∧ h2.2 = (97, 78870) := by
  have hp : ∃ v, prL 56 108 [.int (xs 1)] (991 + 9) 78870 f v := pa_size
  obtain ⟨v, h1, e1, h2, e2, e3⟩ := hp
  have e1 : qMC 1000 56 [.ref 16, .int (xs 1)] (hF f, 97, 78870) (some (.long v), h1) := e1
  have e2 : qMC 1000 108 [.ref 55, .int (xs 1)] h1 (some (.long v), h2) := e2
  have k1 := e1.keep
  have k2 := e2.keep
  have g0 : hF f 0 = .inl (0, 7, .inl xs) := (hF_lo (by omega)).trans h0
  have g1 : h1.1 0 = .inl (0, 7, .inl xs) := (k1.2.2.2 (show 16 ≤ 97 by decide) 0 (by omega)).trans g0
  have g2 : h2.1 0 = .inl (0, 7, .inl xs) := (k2.2.2.2 (Nat.le_trans (show 16 ≤ 97 by decide) k1.1) 0 (by omega)).trans g1
  have hm1 : (55 < h1.2.1) = True := eq_true (Nat.lt_of_lt_of_le (show 55 < 97 by decide) k1.1)
  have hm2 : (∃ F, h1.1 55 = .inr (11, F)) = True := eq_true (k1.obj (show 55 < 97 by decide) (hF_55 (f := f)))
  have hend := law_last g2
  refine ⟨h2, ?_, e3⟩
  obtain ⟨h1f, h1n, h1s⟩ := h1
  simp only [e116_1394, e116_1395, e116_1396, e116_1397, e116_1398, e116_1399, e116_1400, e116_1403, e116_1404, e116_1405, e116_1406, e116_1407, e116_1408, e116_1409, e116_1412, e116_1413, e116_1416, e116_1417, hF_16, hF_55, ald_s g0 (i := 1) (j := 1) (by decide) (by decide), ald_s g0 (i := 2) (j := 2) (by decide) (by decide), ald_s g0 (i := 3) (j := 3) (by decide) (by decide), ald_s g0 (i := 4) (j := 4) (by decide) (by decide), ald_s g0 (i := 5) (j := 5) (by decide) (by decide), ald_s g0 (i := 6) (j := 6) (by decide) (by decide), ald_s g1 (i := 1) (j := 1) (by decide) (by decide), ald_s g1 (i := 2) (j := 2) (by decide) (by decide), ald_s g1 (i := 3) (j := 3) (by decide) (by decide), ald_s g1 (i := 4) (j := 4) (by decide) (by decide), ald_s g1 (i := 5) (j := 5) (by decide) (by decide), ald_s g1 (i := 6) (j := 6) (by decide) (by decide), show (0 : Int32) + 1 = 1 from rfl, show (0 : Int32) + 2 = 2 from rfl, show (0 : Int32) + 3 = 3 from rfl, show (0 : Int32) + 4 = 4 from rfl, show (0 : Int32) + 5 = 5 from rfl, show (0 : Int32) + 6 = 6 from rfl, qMC_det e1, qMC_det e2, hm1, hm2, lg_self, eq_self, ↓reduceIte, qg_7, qg_8, qg_9, qg_10, qg_11, not_true_eq_false, not_false_eq_true, Nat.reduceBEq, Bool.false_eq_true, Nat.reduceMul, qg_0, qg_1, qg_2, qg_3, qg_4, qg_5, qg_6, ex1, ex3, ex4, qfit_i, qfit_l, qfit_r, qfit_n, qfit_b0, qfit_b1, qcat_i, qcat_r, qcat_n, qcat_l, qroom_0, qroom_c, List.map_cons, List.map_nil, List.sum_cons, List.sum_nil, Nat.reduceAdd, Nat.reduceLT, Nat.reduceLeDiff, Nat.reduceEqDiff, Nat.reduceSub, decide_true, true_and, and_true, and_self, if_true, if_false, Option.toList_some, Option.toList_none, List.cons_append, List.nil_append, qput_mk, qiast_mk, qup_at, exF, qnF0, qnF1, qnF2, qnF3, qnF4, qnF5, qnF6, qnF7, qnF8, qnF9, qnF10, qnF11]
  exact hend
set_option maxRecDepth 100000 in
set_option maxHeartbeats 8000000 in
theorem law_36 {f : Nat → qC} {xs : Nat → Int32} (h0 : f 0 = .inl (0, 7, .inl xs)) : ∃ h2, qEv 1000 3 qk_116 1418 [some (.ref 0), some (.ref 16), some (.ref 55), some (.int 0)] [] (hF f, 97, 78870) (some (.int 1), h2) ∧ h2.2 = (97, 78870) := by
  have hp : ∃ v, prL 57 109 [.int (xs 1), .int (xs 2), .int (xs 3)] (991 + 9) 78870 f v := pa_piece
  obtain ⟨v, h1, e1, h2, e2, e3⟩ := hp
  have e1 : qMC 1000 57 [.ref 16, .int (xs 1), .int (xs 2), .int (xs 3)] (hF f, 97, 78870) (some (.long v), h1) := e1
  have e2 : qMC 1000 109 [.ref 55, .int (xs 1), .int (xs 2), .int (xs 3)] h1 (some (.long v), h2) := e2
  have k1 := e1.keep
  have k2 := e2.keep
  have g0 : hF f 0 = .inl (0, 7, .inl xs) := (hF_lo (by omega)).trans h0
  have g1 : h1.1 0 = .inl (0, 7, .inl xs) := (k1.2.2.2 (show 16 ≤ 97 by decide) 0 (by omega)).trans g0
  have g2 : h2.1 0 = .inl (0, 7, .inl xs) := (k2.2.2.2 (Nat.le_trans (show 16 ≤ 97 by decide) k1.1) 0 (by omega)).trans g1
  have hm1 : (55 < h1.2.1) = True := eq_true (Nat.lt_of_lt_of_le (show 55 < 97 by decide) k1.1)
  have hm2 : (∃ F, h1.1 55 = .inr (11, F)) = True := eq_true (k1.obj (show 55 < 97 by decide) (hF_55 (f := f)))
  have hend := law_last g2
  refine ⟨h2, ?_, e3⟩
  obtain ⟨h1f, h1n, h1s⟩ := h1
  simp only [e116_1418, e116_1419, e116_1420, e116_1421, e116_1422, e116_1423, e116_1424, e116_1425, e116_1426, e116_1427, e116_1428, e116_1429, e116_1430, e116_1431, e116_1432, e116_1433, e116_1434, e116_1437, e116_1438, e116_1439, e116_1440, e116_1441, e116_1442, e116_1443, e116_1444, e116_1445, e116_1446, e116_1447, e116_1448, e116_1449, e116_1450, e116_1451, e116_1452, e116_1453, e116_1456, e116_1457, e116_1460, e116_1461, hF_16, hF_55, ald_s g0 (i := 1) (j := 1) (by decide) (by decide), ald_s g0 (i := 2) (j := 2) (by decide) (by decide), ald_s g0 (i := 3) (j := 3) (by decide) (by decide), ald_s g0 (i := 4) (j := 4) (by decide) (by decide), ald_s g0 (i := 5) (j := 5) (by decide) (by decide), ald_s g0 (i := 6) (j := 6) (by decide) (by decide), ald_s g1 (i := 1) (j := 1) (by decide) (by decide), ald_s g1 (i := 2) (j := 2) (by decide) (by decide), ald_s g1 (i := 3) (j := 3) (by decide) (by decide), ald_s g1 (i := 4) (j := 4) (by decide) (by decide), ald_s g1 (i := 5) (j := 5) (by decide) (by decide), ald_s g1 (i := 6) (j := 6) (by decide) (by decide), show (0 : Int32) + 1 = 1 from rfl, show (0 : Int32) + 2 = 2 from rfl, show (0 : Int32) + 3 = 3 from rfl, show (0 : Int32) + 4 = 4 from rfl, show (0 : Int32) + 5 = 5 from rfl, show (0 : Int32) + 6 = 6 from rfl, qMC_det e1, qMC_det e2, hm1, hm2, lg_self, eq_self, ↓reduceIte, qg_7, qg_8, qg_9, qg_10, qg_11, not_true_eq_false, not_false_eq_true, Nat.reduceBEq, Bool.false_eq_true, Nat.reduceMul, qg_0, qg_1, qg_2, qg_3, qg_4, qg_5, qg_6, ex1, ex3, ex4, qfit_i, qfit_l, qfit_r, qfit_n, qfit_b0, qfit_b1, qcat_i, qcat_r, qcat_n, qcat_l, qroom_0, qroom_c, List.map_cons, List.map_nil, List.sum_cons, List.sum_nil, Nat.reduceAdd, Nat.reduceLT, Nat.reduceLeDiff, Nat.reduceEqDiff, Nat.reduceSub, decide_true, true_and, and_true, and_self, if_true, if_false, Option.toList_some, Option.toList_none, List.cons_append, List.nil_append, qput_mk, qiast_mk, qup_at, exF, qnF0, qnF1, qnF2, qnF3, qnF4, qnF5, qnF6, qnF7, qnF8, qnF9, qnF10, qnF11]
  exact hend
set_option maxRecDepth 100000 in
set_option maxHeartbeats 8000000 in
theorem law_37 {f : Nat → qC} {xs : Nat → Int32} (h0 : f 0 = .inl (0, 7, .inl xs)) : ∃ h2, qEv 1000 3 qk_116 1462 [some (.ref 0), some (.ref 16), some (.ref 55), some (.int 0)] [] (hF f, 97, 78870) (some (.int 1), h2) ∧ h2.2 = (97, 78870) := by
  have hp : ∃ v, prI 58 110 [.int (xs 1), .int (xs 2), .int (xs 3)] (991 + 9) 78870 f v := pa_whole
  obtain ⟨v, h1, e1, h2, e2, e3⟩ := hp
  have e1 : qMC 1000 58 [.ref 16, .int (xs 1), .int (xs 2), .int (xs 3)] (hF f, 97, 78870) (some (.int v), h1) := e1
  have e2 : qMC 1000 110 [.ref 55, .int (xs 1), .int (xs 2), .int (xs 3)] h1 (some (.int v), h2) := e2
  have k1 := e1.keep
  have k2 := e2.keep
  have g0 : hF f 0 = .inl (0, 7, .inl xs) := (hF_lo (by omega)).trans h0
  have g1 : h1.1 0 = .inl (0, 7, .inl xs) := (k1.2.2.2 (show 16 ≤ 97 by decide) 0 (by omega)).trans g0
  have g2 : h2.1 0 = .inl (0, 7, .inl xs) := (k2.2.2.2 (Nat.le_trans (show 16 ≤ 97 by decide) k1.1) 0 (by omega)).trans g1
  have hm1 : (55 < h1.2.1) = True := eq_true (Nat.lt_of_lt_of_le (show 55 < 97 by decide) k1.1)
  have hm2 : (∃ F, h1.1 55 = .inr (11, F)) = True := eq_true (k1.obj (show 55 < 97 by decide) (hF_55 (f := f)))
  have hend := law_last g2
  refine ⟨h2, ?_, e3⟩
  obtain ⟨h1f, h1n, h1s⟩ := h1
  simp only [e116_1462, e116_1463, e116_1464, e116_1465, e116_1466, e116_1467, e116_1468, e116_1469, e116_1470, e116_1471, e116_1472, e116_1473, e116_1474, e116_1475, e116_1476, e116_1477, e116_1478, e116_1481, e116_1482, e116_1483, e116_1484, e116_1485, e116_1486, e116_1487, e116_1488, e116_1489, e116_1490, e116_1491, e116_1492, e116_1493, e116_1494, e116_1495, e116_1496, e116_1497, e116_1500, e116_1503, e116_1504, hF_16, hF_55, ald_s g0 (i := 1) (j := 1) (by decide) (by decide), ald_s g0 (i := 2) (j := 2) (by decide) (by decide), ald_s g0 (i := 3) (j := 3) (by decide) (by decide), ald_s g0 (i := 4) (j := 4) (by decide) (by decide), ald_s g0 (i := 5) (j := 5) (by decide) (by decide), ald_s g0 (i := 6) (j := 6) (by decide) (by decide), ald_s g1 (i := 1) (j := 1) (by decide) (by decide), ald_s g1 (i := 2) (j := 2) (by decide) (by decide), ald_s g1 (i := 3) (j := 3) (by decide) (by decide), ald_s g1 (i := 4) (j := 4) (by decide) (by decide), ald_s g1 (i := 5) (j := 5) (by decide) (by decide), ald_s g1 (i := 6) (j := 6) (by decide) (by decide), show (0 : Int32) + 1 = 1 from rfl, show (0 : Int32) + 2 = 2 from rfl, show (0 : Int32) + 3 = 3 from rfl, show (0 : Int32) + 4 = 4 from rfl, show (0 : Int32) + 5 = 5 from rfl, show (0 : Int32) + 6 = 6 from rfl, qMC_det e1, qMC_det e2, hm1, hm2, lg_self, eq_self, ↓reduceIte, qg_7, qg_8, qg_9, qg_10, qg_11, not_true_eq_false, not_false_eq_true, Nat.reduceBEq, Bool.false_eq_true, Nat.reduceMul, qg_0, qg_1, qg_2, qg_3, qg_4, qg_5, qg_6, ex1, ex3, ex4, qfit_i, qfit_l, qfit_r, qfit_n, qfit_b0, qfit_b1, qcat_i, qcat_r, qcat_n, qcat_l, qroom_0, qroom_c, List.map_cons, List.map_nil, List.sum_cons, List.sum_nil, Nat.reduceAdd, Nat.reduceLT, Nat.reduceLeDiff, Nat.reduceEqDiff, Nat.reduceSub, decide_true, true_and, and_true, and_self, if_true, if_false, Option.toList_some, Option.toList_none, List.cons_append, List.nil_append, qput_mk, qiast_mk, qup_at, exF, qnF0, qnF1, qnF2, qnF3, qnF4, qnF5, qnF6, qnF7, qnF8, qnF9, qnF10, qnF11]
  exact hend
set_option maxRecDepth 100000 in
set_option maxHeartbeats 8000000 in
theorem law_38 {f : Nat → qC} {xs : Nat → Int32} (h0 : f 0 = .inl (0, 7, .inl xs)) : ∃ h2, qEv 1000 3 qk_116 1505 [some (.ref 0), some (.ref 16), some (.ref 55), some (.int 0)] [] (hF f, 97, 78870) (some (.int 1), h2) ∧ h2.2 = (97, 78870) := by
  have hp : ∃ v, prI 59 111 [.int (xs 1), .long ((xs 2).toInt64 <<< ((32 : Int32).toInt64 &&& 63) ||| (xs 3).toInt64 &&& 4294967295)] (991 + 9) 78870 f v := pa_feed
  obtain ⟨v, h1, e1, h2, e2, e3⟩ := hp
  have e1 : qMC 1000 59 [.ref 16, .int (xs 1), .long ((xs 2).toInt64 <<< ((32 : Int32).toInt64 &&& 63) ||| (xs 3).toInt64 &&& 4294967295)] (hF f, 97, 78870) (some (.int v), h1) := e1
  have e2 : qMC 1000 111 [.ref 55, .int (xs 1), .long ((xs 2).toInt64 <<< ((32 : Int32).toInt64 &&& 63) ||| (xs 3).toInt64 &&& 4294967295)] h1 (some (.int v), h2) := e2
  have k1 := e1.keep
  have k2 := e2.keep
  have g0 : hF f 0 = .inl (0, 7, .inl xs) := (hF_lo (by omega)).trans h0
  have g1 : h1.1 0 = .inl (0, 7, .inl xs) := (k1.2.2.2 (show 16 ≤ 97 by decide) 0 (by omega)).trans g0
  have g2 : h2.1 0 = .inl (0, 7, .inl xs) := (k2.2.2.2 (Nat.le_trans (show 16 ≤ 97 by decide) k1.1) 0 (by omega)).trans g1
  have hm1 : (55 < h1.2.1) = True := eq_true (Nat.lt_of_lt_of_le (show 55 < 97 by decide) k1.1)
  have hm2 : (∃ F, h1.1 55 = .inr (11, F)) = True := eq_true (k1.obj (show 55 < 97 by decide) (hF_55 (f := f)))
  have hend := law_last g2
  refine ⟨h2, ?_, e3⟩
  obtain ⟨h1f, h1n, h1s⟩ := h1
  simp only [e116_1505, e116_1506, e116_1507, e116_1508, e116_1509, e116_1510, e116_1511, e116_1512, e116_1513, e116_1514, e116_1515, e116_1516, e116_1517, e116_1519, e116_1520, e116_1521, e116_1522, e116_1523, e116_1524, e116_1525, e116_1526, e116_1529, e116_1530, e116_1531, e116_1534, e116_1535, e116_1536, e116_1537, e116_1538, e116_1539, e116_1540, e116_1541, e116_1542, e116_1543, e116_1544, e116_1545, e116_1546, e116_1548, e116_1549, e116_1550, e116_1551, e116_1552, e116_1553, e116_1554, e116_1555, e116_1558, e116_1559, e116_1560, e116_1563, e116_1566, e116_1567, hF_16, hF_55, ald_s g0 (i := 1) (j := 1) (by decide) (by decide), ald_s g0 (i := 2) (j := 2) (by decide) (by decide), ald_s g0 (i := 3) (j := 3) (by decide) (by decide), ald_s g0 (i := 4) (j := 4) (by decide) (by decide), ald_s g0 (i := 5) (j := 5) (by decide) (by decide), ald_s g0 (i := 6) (j := 6) (by decide) (by decide), ald_s g1 (i := 1) (j := 1) (by decide) (by decide), ald_s g1 (i := 2) (j := 2) (by decide) (by decide), ald_s g1 (i := 3) (j := 3) (by decide) (by decide), ald_s g1 (i := 4) (j := 4) (by decide) (by decide), ald_s g1 (i := 5) (j := 5) (by decide) (by decide), ald_s g1 (i := 6) (j := 6) (by decide) (by decide), show (0 : Int32) + 1 = 1 from rfl, show (0 : Int32) + 2 = 2 from rfl, show (0 : Int32) + 3 = 3 from rfl, show (0 : Int32) + 4 = 4 from rfl, show (0 : Int32) + 5 = 5 from rfl, show (0 : Int32) + 6 = 6 from rfl, qMC_det e1, qMC_det e2, hm1, hm2, lg_self, eq_self, ↓reduceIte, qg_7, qg_8, qg_9, qg_10, qg_11, not_true_eq_false, not_false_eq_true, Nat.reduceBEq, Bool.false_eq_true, Nat.reduceMul, qg_0, qg_1, qg_2, qg_3, qg_4, qg_5, qg_6, ex1, ex3, ex4, qfit_i, qfit_l, qfit_r, qfit_n, qfit_b0, qfit_b1, qcat_i, qcat_r, qcat_n, qcat_l, qroom_0, qroom_c, List.map_cons, List.map_nil, List.sum_cons, List.sum_nil, Nat.reduceAdd, Nat.reduceLT, Nat.reduceLeDiff, Nat.reduceEqDiff, Nat.reduceSub, decide_true, true_and, and_true, and_self, if_true, if_false, Option.toList_some, Option.toList_none, List.cons_append, List.nil_append, qput_mk, qiast_mk, qup_at, exF, qnF0, qnF1, qnF2, qnF3, qnF4, qnF5, qnF6, qnF7, qnF8, qnF9, qnF10, qnF11]
  exact hend
set_option maxRecDepth 100000 in
set_option maxHeartbeats 8000000 in
theorem law_39 {f : Nat → qC} {xs : Nat → Int32} (h0 : f 0 = .inl (0, 7, .inl xs)) : ∃ h2, qEv 1000 3 qk_116 1568 [some (.ref 0), some (.ref 16), some (.ref 55), some (.int 0)] [] (hF f, 97, 78870) (some (.int 1), h2) ∧ h2.2 = (97, 78870) := by
  have hp : ∃ v, prI 60 113 [] (991 + 9) 78870 f v := pa_read
  obtain ⟨v, h1, e1, h2, e2, e3⟩ := hp
  have e1 : qMC 1000 60 [.ref 16] (hF f, 97, 78870) (some (.int v), h1) := e1
  have e2 : qMC 1000 113 [.ref 55] h1 (some (.int v), h2) := e2
  have k1 := e1.keep
  have k2 := e2.keep
  have g0 : hF f 0 = .inl (0, 7, .inl xs) := (hF_lo (by omega)).trans h0
  have g1 : h1.1 0 = .inl (0, 7, .inl xs) := (k1.2.2.2 (show 16 ≤ 97 by decide) 0 (by omega)).trans g0
  have g2 : h2.1 0 = .inl (0, 7, .inl xs) := (k2.2.2.2 (Nat.le_trans (show 16 ≤ 97 by decide) k1.1) 0 (by omega)).trans g1
  have hm1 : (55 < h1.2.1) = True := eq_true (Nat.lt_of_lt_of_le (show 55 < 97 by decide) k1.1)
  have hm2 : (∃ F, h1.1 55 = .inr (11, F)) = True := eq_true (k1.obj (show 55 < 97 by decide) (hF_55 (f := f)))
  have hend := law_last g2
  refine ⟨h2, ?_, e3⟩
  obtain ⟨h1f, h1n, h1s⟩ := h1
  simp only [e116_1568, e116_1569, e116_1572, e116_1573, e116_1576, e116_1579, e116_1580, hF_16, hF_55, ald_s g0 (i := 1) (j := 1) (by decide) (by decide), ald_s g0 (i := 2) (j := 2) (by decide) (by decide), ald_s g0 (i := 3) (j := 3) (by decide) (by decide), ald_s g0 (i := 4) (j := 4) (by decide) (by decide), ald_s g0 (i := 5) (j := 5) (by decide) (by decide), ald_s g0 (i := 6) (j := 6) (by decide) (by decide), ald_s g1 (i := 1) (j := 1) (by decide) (by decide), ald_s g1 (i := 2) (j := 2) (by decide) (by decide), ald_s g1 (i := 3) (j := 3) (by decide) (by decide), ald_s g1 (i := 4) (j := 4) (by decide) (by decide), ald_s g1 (i := 5) (j := 5) (by decide) (by decide), ald_s g1 (i := 6) (j := 6) (by decide) (by decide), show (0 : Int32) + 1 = 1 from rfl, show (0 : Int32) + 2 = 2 from rfl, show (0 : Int32) + 3 = 3 from rfl, show (0 : Int32) + 4 = 4 from rfl, show (0 : Int32) + 5 = 5 from rfl, show (0 : Int32) + 6 = 6 from rfl, qMC_det e1, qMC_det e2, hm1, hm2, lg_self, eq_self, ↓reduceIte, qg_7, qg_8, qg_9, qg_10, qg_11, not_true_eq_false, not_false_eq_true, Nat.reduceBEq, Bool.false_eq_true, Nat.reduceMul, qg_0, qg_1, qg_2, qg_3, qg_4, qg_5, qg_6, ex1, ex3, ex4, qfit_i, qfit_l, qfit_r, qfit_n, qfit_b0, qfit_b1, qcat_i, qcat_r, qcat_n, qcat_l, qroom_0, qroom_c, List.map_cons, List.map_nil, List.sum_cons, List.sum_nil, Nat.reduceAdd, Nat.reduceLT, Nat.reduceLeDiff, Nat.reduceEqDiff, Nat.reduceSub, decide_true, true_and, and_true, and_self, if_true, if_false, Option.toList_some, Option.toList_none, List.cons_append, List.nil_append, qput_mk, qiast_mk, qup_at, exF, qnF0, qnF1, qnF2, qnF3, qnF4, qnF5, qnF6, qnF7, qnF8, qnF9, qnF10, qnF11]
  exact hend
set_option maxRecDepth 100000 in
set_option maxHeartbeats 8000000 in
theorem law_40 {f : Nat → qC} {xs : Nat → Int32} (h0 : f 0 = .inl (0, 7, .inl xs)) : ∃ h2, qEv 1000 3 qk_116 1581 [some (.ref 0), some (.ref 16), some (.ref 55), some (.int 0)] [] (hF f, 97, 78870) (some (.int 1), h2) ∧ h2.2 = (97, 78870) := by
  have hp : ∃ v, prI 61 114 [] (991 + 9) 78870 f v := pa_fault
  obtain ⟨v, h1, e1, h2, e2, e3⟩ := hp
  have e1 : qMC 1000 61 [.ref 16] (hF f, 97, 78870) (some (.int v), h1) := e1
  have e2 : qMC 1000 114 [.ref 55] h1 (some (.int v), h2) := e2
  have k1 := e1.keep
  have k2 := e2.keep
  have g0 : hF f 0 = .inl (0, 7, .inl xs) := (hF_lo (by omega)).trans h0
  have g1 : h1.1 0 = .inl (0, 7, .inl xs) := (k1.2.2.2 (show 16 ≤ 97 by decide) 0 (by omega)).trans g0
  have g2 : h2.1 0 = .inl (0, 7, .inl xs) := (k2.2.2.2 (Nat.le_trans (show 16 ≤ 97 by decide) k1.1) 0 (by omega)).trans g1
  have hm1 : (55 < h1.2.1) = True := eq_true (Nat.lt_of_lt_of_le (show 55 < 97 by decide) k1.1)
  have hm2 : (∃ F, h1.1 55 = .inr (11, F)) = True := eq_true (k1.obj (show 55 < 97 by decide) (hF_55 (f := f)))
  have hend := law_last g2
  refine ⟨h2, ?_, e3⟩
  obtain ⟨h1f, h1n, h1s⟩ := h1
  simp only [e116_1581, e116_1582, e116_1585, e116_1586, e116_1589, e116_1592, e116_1593, hF_16, hF_55, ald_s g0 (i := 1) (j := 1) (by decide) (by decide), ald_s g0 (i := 2) (j := 2) (by decide) (by decide), ald_s g0 (i := 3) (j := 3) (by decide) (by decide), ald_s g0 (i := 4) (j := 4) (by decide) (by decide), ald_s g0 (i := 5) (j := 5) (by decide) (by decide), ald_s g0 (i := 6) (j := 6) (by decide) (by decide), ald_s g1 (i := 1) (j := 1) (by decide) (by decide), ald_s g1 (i := 2) (j := 2) (by decide) (by decide), ald_s g1 (i := 3) (j := 3) (by decide) (by decide), ald_s g1 (i := 4) (j := 4) (by decide) (by decide), ald_s g1 (i := 5) (j := 5) (by decide) (by decide), ald_s g1 (i := 6) (j := 6) (by decide) (by decide), show (0 : Int32) + 1 = 1 from rfl, show (0 : Int32) + 2 = 2 from rfl, show (0 : Int32) + 3 = 3 from rfl, show (0 : Int32) + 4 = 4 from rfl, show (0 : Int32) + 5 = 5 from rfl, show (0 : Int32) + 6 = 6 from rfl, qMC_det e1, qMC_det e2, hm1, hm2, lg_self, eq_self, ↓reduceIte, qg_7, qg_8, qg_9, qg_10, qg_11, not_true_eq_false, not_false_eq_true, Nat.reduceBEq, Bool.false_eq_true, Nat.reduceMul, qg_0, qg_1, qg_2, qg_3, qg_4, qg_5, qg_6, ex1, ex3, ex4, qfit_i, qfit_l, qfit_r, qfit_n, qfit_b0, qfit_b1, qcat_i, qcat_r, qcat_n, qcat_l, qroom_0, qroom_c, List.map_cons, List.map_nil, List.sum_cons, List.sum_nil, Nat.reduceAdd, Nat.reduceLT, Nat.reduceLeDiff, Nat.reduceEqDiff, Nat.reduceSub, decide_true, true_and, and_true, and_self, if_true, if_false, Option.toList_some, Option.toList_none, List.cons_append, List.nil_append, qput_mk, qiast_mk, qup_at, exF, qnF0, qnF1, qnF2, qnF3, qnF4, qnF5, qnF6, qnF7, qnF8, qnF9, qnF10, qnF11]
  exact hend
set_option maxRecDepth 100000 in
set_option maxHeartbeats 8000000 in
theorem law_41 {f : Nat → qC} {xs : Nat → Int32} (h0 : f 0 = .inl (0, 7, .inl xs)) : ∃ h2, qEv 1000 3 qk_116 1594 [some (.ref 0), some (.ref 16), some (.ref 55), some (.int 0)] [] (hF f, 97, 78870) (some (.int 1), h2) ∧ h2.2 = (97, 78870) := by
  have hp : ∃ v, prI 62 115 [.int (xs 1)] (991 + 9) 78870 f v := pa_claim
  obtain ⟨v, h1, e1, h2, e2, e3⟩ := hp
  have e1 : qMC 1000 62 [.ref 16, .int (xs 1)] (hF f, 97, 78870) (some (.int v), h1) := e1
  have e2 : qMC 1000 115 [.ref 55, .int (xs 1)] h1 (some (.int v), h2) := e2
  have k1 := e1.keep
  have k2 := e2.keep
  have g0 : hF f 0 = .inl (0, 7, .inl xs) := (hF_lo (by omega)).trans h0
  have g1 : h1.1 0 = .inl (0, 7, .inl xs) := (k1.2.2.2 (show 16 ≤ 97 by decide) 0 (by omega)).trans g0
  have g2 : h2.1 0 = .inl (0, 7, .inl xs) := (k2.2.2.2 (Nat.le_trans (show 16 ≤ 97 by decide) k1.1) 0 (by omega)).trans g1
  have hm1 : (55 < h1.2.1) = True := eq_true (Nat.lt_of_lt_of_le (show 55 < 97 by decide) k1.1)
  have hm2 : (∃ F, h1.1 55 = .inr (11, F)) = True := eq_true (k1.obj (show 55 < 97 by decide) (hF_55 (f := f)))
  have hend := law_last g2
  refine ⟨h2, ?_, e3⟩
  obtain ⟨h1f, h1n, h1s⟩ := h1
  simp only [e116_1594, e116_1595, e116_1596, e116_1597, e116_1598, e116_1599, e116_1600, e116_1603, e116_1604, e116_1605, e116_1606, e116_1607, e116_1608, e116_1609, e116_1612, e116_1615, e116_1616, hF_16, hF_55, ald_s g0 (i := 1) (j := 1) (by decide) (by decide), ald_s g0 (i := 2) (j := 2) (by decide) (by decide), ald_s g0 (i := 3) (j := 3) (by decide) (by decide), ald_s g0 (i := 4) (j := 4) (by decide) (by decide), ald_s g0 (i := 5) (j := 5) (by decide) (by decide), ald_s g0 (i := 6) (j := 6) (by decide) (by decide), ald_s g1 (i := 1) (j := 1) (by decide) (by decide), ald_s g1 (i := 2) (j := 2) (by decide) (by decide), ald_s g1 (i := 3) (j := 3) (by decide) (by decide), ald_s g1 (i := 4) (j := 4) (by decide) (by decide), ald_s g1 (i := 5) (j := 5) (by decide) (by decide), ald_s g1 (i := 6) (j := 6) (by decide) (by decide), show (0 : Int32) + 1 = 1 from rfl, show (0 : Int32) + 2 = 2 from rfl, show (0 : Int32) + 3 = 3 from rfl, show (0 : Int32) + 4 = 4 from rfl, show (0 : Int32) + 5 = 5 from rfl, show (0 : Int32) + 6 = 6 from rfl, qMC_det e1, qMC_det e2, hm1, hm2, lg_self, eq_self, ↓reduceIte, qg_7, qg_8, qg_9, qg_10, qg_11, not_true_eq_false, not_false_eq_true, Nat.reduceBEq, Bool.false_eq_true, Nat.reduceMul, qg_0, qg_1, qg_2, qg_3, qg_4, qg_5, qg_6, ex1, ex3, ex4, qfit_i, qfit_l, qfit_r, qfit_n, qfit_b0, qfit_b1, qcat_i, qcat_r, qcat_n, qcat_l, qroom_0, qroom_c, List.map_cons, List.map_nil, List.sum_cons, List.sum_nil, Nat.reduceAdd, Nat.reduceLT, Nat.reduceLeDiff, Nat.reduceEqDiff, Nat.reduceSub, decide_true, true_and, and_true, and_self, if_true, if_false, Option.toList_some, Option.toList_none, List.cons_append, List.nil_append, qput_mk, qiast_mk, qup_at, exF, qnF0, qnF1, qnF2, qnF3, qnF4, qnF5, qnF6, qnF7, qnF8, qnF9, qnF10, qnF11]
  exact hend
set_option maxRecDepth 100000 in
set_option maxHeartbeats 8000000 in
theorem law_one {f : Nat → qC} {xs : Nat → Int32} (h0 : f 0 = .inl (0, 7, .inl xs)) : ∃ h2, qEv 1000 3 qk_116 18 [some (.ref 0), some (.ref 16), some (.ref 55), some (.int 0)] [] (hF f, 97, 78870) (some (.int 1), h2) ∧ h2.2 = (97, 78870) := by
  have g0 : hF f 0 = .inl (0, 7, .inl xs) := (hF_lo (by omega)).trans h0
  have hx : ∀ R, qEv 1000 3 qk_116 33 [some (.ref 0), some (.ref 16), some (.ref 55), some (.int 0)] [.int (xs 0 &&& 63)] (hF f, 97, 78870) R → qEv 1000 3 qk_116 18 [some (.ref 0), some (.ref 16), some (.ref 55), some (.int 0)] [] (hF f, 97, 78870) R := by
    intro R hR
    simp only [e116_18, e116_19, e116_20, e116_21, e116_23, e116_24, e116_27, e116_28, e116_29, e116_30, e116_32, ale_s g0, ald_s g0 (i := 0) (j := 0) (by decide) (by decide), show ((Int32.ofNat 7 - 7) < 0) = False by decide, ↓reduceIte, qg_7, qg_8, qg_9, qg_10, qg_11, not_true_eq_false, not_false_eq_true, Nat.reduceBEq, Bool.false_eq_true, Nat.reduceMul, qg_0, qg_1, qg_2, qg_3, qg_4, qg_5, qg_6, ex1, ex3, ex4, qfit_i, qfit_l, qfit_r, qfit_n, qfit_b0, qfit_b1, qcat_i, qcat_r, qcat_n, qcat_l, qroom_0, qroom_c, List.map_cons, List.map_nil, List.sum_cons, List.sum_nil, Nat.reduceAdd, Nat.reduceLT, Nat.reduceLeDiff, Nat.reduceEqDiff, Nat.reduceSub, decide_true, true_and, and_true, and_self, if_true, if_false, Option.toList_some, Option.toList_none, List.cons_append, List.nil_append, qput_mk, qiast_mk, qup_at, exF, qnF0, qnF1, qnF2, qnF3, qnF4, qnF5, qnF6, qnF7, qnF8, qnF9, qnF10, qnF11]
    exact hR
  obtain ⟨z, hz⟩ : ∃ z, z = xs 0 &&& 63 := ⟨_, rfl⟩
  rw [← hz] at hx
  have hs := @e116_33
  by_cases hc : z.toInt < 0 ∨ 41 < z.toInt
  · refine ⟨(hF f, 97, 78870), hx _ (hs.mpr ?_), rfl⟩
    rw [if_pos hc]
    exact law_last g0
  · have h1 : ∃ c : Nat, c < 42 ∧ z.toInt = c := ⟨z.toInt.toNat, by omega, by omega⟩
    obtain ⟨c, hc1, hc2⟩ := h1
    have key : ∀ (t : Nat) (off : Int), (#[183, 236, 249, 272, 347, 390, 423, 466, 499, 532, 565, 608, 631, 664, 707, 760, 793, 816, 849, 882, 905, 928, 951, 974, 987, 1010, 1043, 1086, 1109, 1162, 1205, 1249, 1282, 1305, 1328, 1361, 1385, 1429, 1472, 1535, 1548, 1561] : Array Int)[c]? = some off → qtgt 33 off = t → (∃ h2, qEv 1000 3 qk_116 t [some (.ref 0), some (.ref 16), some (.ref 55), some (.int 0)] [] (hF f, 97, 78870) (some (.int 1), h2) ∧ h2.2 = (97, 78870)) → ∃ h2, qEv 1000 3 qk_116 18 [some (.ref 0), some (.ref 16), some (.ref 55), some (.int 0)] [] (hF f, 97, 78870) (some (.int 1), h2) ∧ h2.2 = (97, 78870) := by
      rintro t off ho ht ⟨h2, q1, q2⟩
      refine ⟨h2, hx _ (hs.mpr ?_), q2⟩
      rw [if_neg hc]
      refine ⟨off, ?_, by rw [ht]; exact q1⟩
      rw [hc2, show ((c : Int) - 0).toNat = c by omega]
      exact ho
    match c, hc1, key with
    | 0, _, key => exact key 216 183 rfl rfl (law_0 h0)
    | 1, _, key => exact key 269 236 rfl rfl (law_1 h0)
    | 2, _, key => exact key 282 249 rfl rfl (law_2 h0)
    | 3, _, key => exact key 305 272 rfl rfl (law_3 h0)
    | 4, _, key => exact key 380 347 rfl rfl (law_4 h0)
    | 5, _, key => exact key 423 390 rfl rfl (law_5 h0)
    | 6, _, key => exact key 456 423 rfl rfl (law_6 h0)
    | 7, _, key => exact key 499 466 rfl rfl (law_7 h0)
    | 8, _, key => exact key 532 499 rfl rfl (law_8 h0)
    | 9, _, key => exact key 565 532 rfl rfl (law_9 h0)
    | 10, _, key => exact key 598 565 rfl rfl (law_10 h0)
    | 11, _, key => exact key 641 608 rfl rfl (law_11 h0)
    | 12, _, key => exact key 664 631 rfl rfl (law_12 h0)
    | 13, _, key => exact key 697 664 rfl rfl (law_13 h0)
    | 14, _, key => exact key 740 707 rfl rfl (law_14 h0)
    | 15, _, key => exact key 793 760 rfl rfl (law_15 h0)
    | 16, _, key => exact key 826 793 rfl rfl (law_16 h0)
    | 17, _, key => exact key 849 816 rfl rfl (law_17 h0)
    | 18, _, key => exact key 882 849 rfl rfl (law_18 h0)
    | 19, _, key => exact key 915 882 rfl rfl (law_19 h0)
    | 20, _, key => exact key 938 905 rfl rfl (law_20 h0)
    | 21, _, key => exact key 961 928 rfl rfl (law_21 h0)
    | 22, _, key => exact key 984 951 rfl rfl (law_22 h0)
    | 23, _, key => exact key 1007 974 rfl rfl (law_23 h0)
    | 24, _, key => exact key 1020 987 rfl rfl (law_24 h0)
    | 25, _, key => exact key 1043 1010 rfl rfl (law_25 h0)
    | 26, _, key => exact key 1076 1043 rfl rfl (law_26 h0)
    | 27, _, key => exact key 1119 1086 rfl rfl (law_27 h0)
    | 28, _, key => exact key 1142 1109 rfl rfl (law_28 h0)
    | 29, _, key => exact key 1195 1162 rfl rfl (law_29 h0)
    | 30, _, key => exact key 1238 1205 rfl rfl (law_30 h0)
    | 31, _, key => exact key 1282 1249 rfl rfl (law_31 h0)
    | 32, _, key => exact key 1315 1282 rfl rfl (law_32 h0)
    | 33, _, key => exact key 1338 1305 rfl rfl (law_33 h0)
    | 34, _, key => exact key 1361 1328 rfl rfl (law_34 h0)
    | 35, _, key => exact key 1394 1361 rfl rfl (law_35 h0)
    | 36, _, key => exact key 1418 1385 rfl rfl (law_36 h0)
    | 37, _, key => exact key 1462 1429 rfl rfl (law_37 h0)
    | 38, _, key => exact key 1505 1472 rfl rfl (law_38 h0)
    | 39, _, key => exact key 1568 1535 rfl rfl (law_39 h0)
    | 40, _, key => exact key 1581 1548 rfl rfl (law_40 h0)
    | 41, _, key => exact key 1594 1561 rfl rfl (law_41 h0)
    | c + 42, hc1, _ => exact absurd hc1 (by omega)
theorem law_le7 (L : Nat) (xs : Nat → Int32) (hL : L ≤ 7) : qLaw L xs := by
  obtain ⟨f0, hf, hf0⟩ : ∃ f0, qh0 L xs = (f0, 16, 0) ∧ f0 0 = .inl (0, L, .inl xs) := ⟨_, rfl, rfl⟩
  have fin : (∃ h2, qEv 1000 3 qk_116 18 [some (.ref 0), some (.ref 16), some (.ref 55), some (.int 0)] [] (hF f0, 97, 78870) (some (.int 1), h2) ∧ h2.2 = (97, 78870)) → qLaw L xs := by
    rintro ⟨h2, q1, q2⟩
    obtain ⟨N, n, e⟩ := law_begin q1
    rw [← hf] at e
    exact ⟨N, n, h2, e, by rw [q2]; decide, by rw [q2]; decide⟩
  apply fin
  by_cases h7 : L = 7
  · subst h7; exact law_one hf0
  · have g0 : hF f0 0 = .inl (0, L, .inl xs) := (hF_lo (by omega)).trans hf0
    refine ⟨(hF f0, 97, 78870), law_out (h := (hF f0, 97, 78870)) (i := 0) g0 ?_, rfl⟩
    have : L = 0 ∨ L = 1 ∨ L = 2 ∨ L = 3 ∨ L = 4 ∨ L = 5 ∨ L = 6 := by omega
    rcases this with rfl | rfl | rfl | rfl | rfl | rfl | rfl <;> decide

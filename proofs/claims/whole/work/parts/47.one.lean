/-! ===== THE LAW WITH ONE CALL (by program: wip/gen/mk47.py) ===== -/
theorem lg_self (v : Int64) : lg_cmp v v = 0 := by
  unfold lg_cmp
  rw [if_neg (fun h => Int64.lt_irrefl h), if_pos rfl]
theorem hF_lo {f : Nat → qC} {a : Nat} (h : a < 16) : hF f a = f a := (hM_lt (by omega)).trans (hX_lt h)
set_option maxRecDepth 100000 in
set_option maxHeartbeats 8000000 in
theorem law_begin {f0 : Nat → qC} {R : qRes} (hR : qEv 1000 3 qk_318 18 [some (.ref 0), some (.ref 16), some (.ref 55), some (.int 0)] [] (hF f0, 97, 78870) R) : qEv 1000 3 qk_318 0 [some (.ref 0), none, none, none] [] (f0, 16, 0) R := by
  have e1 : qMC 1000 132 [.ref 16] (qup f0 16 (.inr (10, qdef 10)), 17, 13) (none, (hX f0, 55, 2468)) := by
    have := new_X (d := 998) (k := 0) (f := f0)
    simp only [qnew_mk, Nat.reduceAdd] at this
    exact this
  have e2 : qMC 1000 188 [.ref 55] (qup (hX f0) 55 (.inr (11, qdef 11)), 56, 2531) (none, (hF f0, 97, 78870)) := by
    have := new_M (d := 999) (k := 2468) (f := hX f0)
    simp only [qnew_mk, Nat.reduceAdd] at this
    exact this
  simp only [e318_0, e318_3, e318_4, e318_7, e318_8, e318_11, e318_12, e318_15, e318_16, e318_17, qnew_mk, qMC_det e1, qMC_det e2, ↓reduceIte, qg_7, qg_8, qg_9, qg_10, qg_11, not_true_eq_false, not_false_eq_true, Nat.reduceBEq, Bool.false_eq_true, Nat.reduceMul, qg_0, qg_1, qg_2, qg_3, qg_4, qg_5, qg_6, ex1, ex3, ex4, qfit_i, qfit_l, qfit_r, qfit_n, qfit_b0, qfit_b1, qcat_i, qcat_r, qcat_n, qcat_l, qroom_0, qroom_c, List.map_cons, List.map_nil, List.sum_cons, List.sum_nil, Nat.reduceAdd, Nat.reduceLT, Nat.reduceLeDiff, Nat.reduceEqDiff, Nat.reduceSub, decide_true, true_and, and_true, and_self, if_true, if_false, Option.toList_some, Option.toList_none, List.cons_append, List.nil_append, qget_mk, qput_mk, qiald_mk, qiast_mk, qup_at, exF, qnF0, qnF1, qnF2, qnF3, qnF4, qnF5, qnF6, qnF7, qnF8, qnF9, qnF10, qnF11, qsL, qlong, List.length_cons, List.length_nil]
  exact hR
theorem ald_s {g : Nat → qC} {n k : Nat} {xs : Nat → Int32} (h0 : g 0 = .inl (0, 7, .inl xs)) {i : Int32} {j : Nat} (hi : ¬ (i < 0 ∨ 7 ≤ i.toNatClampNeg)) (hj : i.toNatClampNeg = j) : qiald (g, n, k) 0 i = some (xs j) := by
  unfold qiald
  rw [if_pos (Or.inl rfl), show (g, n, k).1 0 = .inl (0, 7, .inl xs) from h0]
  show (if i < 0 ∨ 7 ≤ i.toNatClampNeg then none else some (xs i.toNatClampNeg)) = _
  rw [if_neg hi, hj]
theorem ale_s {g : Nat → qC} {n k L : Nat} {xs : Nat → Int32} (h0 : g 0 = .inl (0, L, .inl xs)) : qalen (g, n, k) 0 = some (Int32.ofNat L) := by
  unfold qalen
  rw [if_pos (Or.inl rfl), show (g, n, k).1 0 = .inl (0, L, .inl xs) from h0]
  rfl
set_option maxRecDepth 100000 in
set_option maxHeartbeats 8000000 in
theorem law_out {h : qH} {L : Nat} {xs : Nat → Int32} (h0 : h.1 0 = .inl (0, L, .inl xs)) {i : Int32} (hi : Int32.ofNat L - 7 < i) : qEv 1000 3 qk_318 18 [some (.ref 0), some (.ref 16), some (.ref 55), some (.int i)] [] h (some (.int 1), h) := by
  obtain ⟨g, n, k⟩ := h
  simp only [e318_18, e318_19, e318_20, e318_21, e318_23, e318_24, e318_1623, e318_1624, ale_s h0, ↓reduceIte, qg_7, qg_8, qg_9, qg_10, qg_11, not_true_eq_false, not_false_eq_true, Nat.reduceBEq, Bool.false_eq_true, Nat.reduceMul, qg_0, qg_1, qg_2, qg_3, qg_4, qg_5, qg_6, ex1, ex3, ex4, qfit_i, qfit_l, qfit_r, qfit_n, qfit_b0, qfit_b1, qcat_i, qcat_r, qcat_n, qcat_l, qroom_0, qroom_c, List.map_cons, List.map_nil, List.sum_cons, List.sum_nil, Nat.reduceAdd, Nat.reduceLT, Nat.reduceLeDiff, Nat.reduceEqDiff, Nat.reduceSub, decide_true, true_and, and_true, and_self, if_true, if_false, Option.toList_some, Option.toList_none, List.cons_append, List.nil_append, qget_mk, qput_mk, qiald_mk, qiast_mk, qup_at, exF, qnF0, qnF1, qnF2, qnF3, qnF4, qnF5, qnF6, qnF7, qnF8, qnF9, qnF10, qnF11, hi]
set_option maxRecDepth 100000 in
set_option maxHeartbeats 8000000 in
theorem law_last {h : qH} {xs : Nat → Int32} (h0 : h.1 0 = .inl (0, 7, .inl xs)) : qEv 1000 3 qk_318 1617 [some (.ref 0), some (.ref 16), some (.ref 55), some (.int 0)] [] h (some (.int 1), h) := by
  have := law_out (i := 7) h0 (by decide)
  simp only [e318_1617, e318_1620, exI, ↓reduceIte, qg_7, qg_8, qg_9, qg_10, qg_11, not_true_eq_false, not_false_eq_true, Nat.reduceBEq, Bool.false_eq_true, Nat.reduceMul, qg_0, qg_1, qg_2, qg_3, qg_4, qg_5, qg_6, ex1, ex3, ex4, qfit_i, qfit_l, qfit_r, qfit_n, qfit_b0, qfit_b1, qcat_i, qcat_r, qcat_n, qcat_l, qroom_0, qroom_c, List.map_cons, List.map_nil, List.sum_cons, List.sum_nil, Nat.reduceAdd, Nat.reduceLT, Nat.reduceLeDiff, Nat.reduceEqDiff, Nat.reduceSub, decide_true, true_and, and_true, and_self, if_true, if_false, Option.toList_some, Option.toList_none, List.cons_append, List.nil_append, qget_mk, qput_mk, qiald_mk, qiast_mk, qup_at, exF, qnF0, qnF1, qnF2, qnF3, qnF4, qnF5, qnF6, qnF7, qnF8, qnF9, qnF10, qnF11, qsL, qlong, show (0 : Int32) + 7 = 7 from rfl]
  exact this
set_option maxRecDepth 100000 in
set_option maxHeartbeats 8000000 in
theorem law_0 {f : Nat → qC} {xs : Nat → Int32} (h0 : f 0 = .inl (0, 7, .inl xs)) : ∃ h2, qEv 1000 3 qk_318 216 [some (.ref 0), some (.ref 16), some (.ref 55), some (.int 0)] [] (hF f, 97, 78870) (some (.int 1), h2) ∧ h2.2 = (97, 78870) := by
  have hp : ∃ v, prI 133 214 [.int (xs 1), .int (xs 2), .int (xs 3), .int (xs 4)] (991 + 9) 78870 f v := pa_point
  obtain ⟨v, h1, e1, h2, e2, e3⟩ := hp
  have e1 : qMC 1000 133 [.ref 16, .int (xs 1), .int (xs 2), .int (xs 3), .int (xs 4)] (hF f, 97, 78870) (some (.int v), h1) := e1
  have e2 : qMC 1000 214 [.ref 55, .int (xs 1), .int (xs 2), .int (xs 3), .int (xs 4)] h1 (some (.int v), h2) := e2
  have k1 := e1.keep
  have k2 := e2.keep
  have g0 : hF f 0 = .inl (0, 7, .inl xs) := (hF_lo (by omega)).trans h0
  have g1 : h1.1 0 = .inl (0, 7, .inl xs) := (k1.2.2.2 (show 16 ≤ 97 by decide) 0 (by omega)).trans g0
  have g2 : h2.1 0 = .inl (0, 7, .inl xs) := (k2.2.2.2 (Nat.le_trans (show 16 ≤ 97 by decide) k1.1) 0 (by omega)).trans g1
  have hm1 : (55 < h1.2.1) = True := eq_true (Nat.lt_of_lt_of_le (show 55 < 97 by decide) k1.1)
  have hm2 : (∃ F, h1.1 55 = .inr (11, F)) = True := eq_true (k1.obj (show 55 < 97 by decide) (hF_55 (f := f)))
  have hend := law_last g2
  refine ⟨h2, ?_, e3⟩
  obtain ⟨h1f, h1n, h1s⟩ := h1
  simp only [e318_216, e318_217, e318_218, e318_219, e318_220, e318_221, e318_222, e318_223, e318_224, e318_225, e318_226, e318_227, e318_228, e318_229, e318_230, e318_231, e318_232, e318_233, e318_234, e318_235, e318_236, e318_237, e318_240, e318_241, e318_242, e318_243, e318_244, e318_245, e318_246, e318_247, e318_248, e318_249, e318_250, e318_251, e318_252, e318_253, e318_254, e318_255, e318_256, e318_257, e318_258, e318_259, e318_260, e318_261, e318_264, e318_267, e318_268, hF_16, hF_55, ald_s g0 (i := 1) (j := 1) (by decide) (by decide), ald_s g0 (i := 2) (j := 2) (by decide) (by decide), ald_s g0 (i := 3) (j := 3) (by decide) (by decide), ald_s g0 (i := 4) (j := 4) (by decide) (by decide), ald_s g0 (i := 5) (j := 5) (by decide) (by decide), ald_s g0 (i := 6) (j := 6) (by decide) (by decide), ald_s g1 (i := 1) (j := 1) (by decide) (by decide), ald_s g1 (i := 2) (j := 2) (by decide) (by decide), ald_s g1 (i := 3) (j := 3) (by decide) (by decide), ald_s g1 (i := 4) (j := 4) (by decide) (by decide), ald_s g1 (i := 5) (j := 5) (by decide) (by decide), ald_s g1 (i := 6) (j := 6) (by decide) (by decide), show (0 : Int32) + 1 = 1 from rfl, show (0 : Int32) + 2 = 2 from rfl, show (0 : Int32) + 3 = 3 from rfl, show (0 : Int32) + 4 = 4 from rfl, show (0 : Int32) + 5 = 5 from rfl, show (0 : Int32) + 6 = 6 from rfl, qMC_det e1, qMC_det e2, hm1, hm2, lg_self, eq_self, ↓reduceIte, qg_7, qg_8, qg_9, qg_10, qg_11, not_true_eq_false, not_false_eq_true, Nat.reduceBEq, Bool.false_eq_true, Nat.reduceMul, qg_0, qg_1, qg_2, qg_3, qg_4, qg_5, qg_6, ex1, ex3, ex4, qfit_i, qfit_l, qfit_r, qfit_n, qfit_b0, qfit_b1, qcat_i, qcat_r, qcat_n, qcat_l, qroom_0, qroom_c, List.map_cons, List.map_nil, List.sum_cons, List.sum_nil, Nat.reduceAdd, Nat.reduceLT, Nat.reduceLeDiff, Nat.reduceEqDiff, Nat.reduceSub, decide_true, true_and, and_true, and_self, if_true, if_false, Option.toList_some, Option.toList_none, List.cons_append, List.nil_append, qput_mk, qiast_mk, qup_at, exF, qnF0, qnF1, qnF2, qnF3, qnF4, qnF5, qnF6, qnF7, qnF8, qnF9, qnF10, qnF11]
  exact hend
set_option maxRecDepth 100000 in
set_option maxHeartbeats 8000000 in
theorem law_1 {f : Nat → qC} {xs : Nat → Int32} (h0 : f 0 = .inl (0, 7, .inl xs)) : ∃ h2, qEv 1000 3 qk_318 269 [some (.ref 0), some (.ref 16), some (.ref 55), some (.int 0)] [] (hF f, 97, 78870) (some (.int 1), h2) ∧ h2.2 = (97, 78870) := by
  have hp : ∃ v, prI 134 215 [] (991 + 9) 78870 f v := pa_wipe
  obtain ⟨v, h1, e1, h2, e2, e3⟩ := hp
  have e1 : qMC 1000 134 [.ref 16] (hF f, 97, 78870) (some (.int v), h1) := e1
  have e2 : qMC 1000 215 [.ref 55] h1 (some (.int v), h2) := e2
  have k1 := e1.keep
  have k2 := e2.keep
  have g0 : hF f 0 = .inl (0, 7, .inl xs) := (hF_lo (by omega)).trans h0
  have g1 : h1.1 0 = .inl (0, 7, .inl xs) := (k1.2.2.2 (show 16 ≤ 97 by decide) 0 (by omega)).trans g0
  have g2 : h2.1 0 = .inl (0, 7, .inl xs) := (k2.2.2.2 (Nat.le_trans (show 16 ≤ 97 by decide) k1.1) 0 (by omega)).trans g1
  have hm1 : (55 < h1.2.1) = True := eq_true (Nat.lt_of_lt_of_le (show 55 < 97 by decide) k1.1)
  have hm2 : (∃ F, h1.1 55 = .inr (11, F)) = True := eq_true (k1.obj (show 55 < 97 by decide) (hF_55 (f := f)))
  have hend := law_last g2
  refine ⟨h2, ?_, e3⟩
  obtain ⟨h1f, h1n, h1s⟩ := h1
  simp only [e318_269, e318_270, e318_273, e318_274, e318_277, e318_280, e318_281, hF_16, hF_55, ald_s g0 (i := 1) (j := 1) (by decide) (by decide), ald_s g0 (i := 2) (j := 2) (by decide) (by decide), ald_s g0 (i := 3) (j := 3) (by decide) (by decide), ald_s g0 (i := 4) (j := 4) (by decide) (by decide), ald_s g0 (i := 5) (j := 5) (by decide) (by decide), ald_s g0 (i := 6) (j := 6) (by decide) (by decide), ald_s g1 (i := 1) (j := 1) (by decide) (by decide), ald_s g1 (i := 2) (j := 2) (by decide) (by decide), ald_s g1 (i := 3) (j := 3) (by decide) (by decide), ald_s g1 (i := 4) (j := 4) (by decide) (by decide), ald_s g1 (i := 5) (j := 5) (by decide) (by decide), ald_s g1 (i := 6) (j := 6) (by decide) (by decide), show (0 : Int32) + 1 = 1 from rfl, show (0 : Int32) + 2 = 2 from rfl, show (0 : Int32) + 3 = 3 from rfl, show (0 : Int32) + 4 = 4 from rfl, show (0 : Int32) + 5 = 5 from rfl, show (0 : Int32) + 6 = 6 from rfl, qMC_det e1, qMC_det e2, hm1, hm2, lg_self, eq_self, ↓reduceIte, qg_7, qg_8, qg_9, qg_10, qg_11, not_true_eq_false, not_false_eq_true, Nat.reduceBEq, Bool.false_eq_true, Nat.reduceMul, qg_0, qg_1, qg_2, qg_3, qg_4, qg_5, qg_6, ex1, ex3, ex4, qfit_i, qfit_l, qfit_r, qfit_n, qfit_b0, qfit_b1, qcat_i, qcat_r, qcat_n, qcat_l, qroom_0, qroom_c, List.map_cons, List.map_nil, List.sum_cons, List.sum_nil, Nat.reduceAdd, Nat.reduceLT, Nat.reduceLeDiff, Nat.reduceEqDiff, Nat.reduceSub, decide_true, true_and, and_true, and_self, if_true, if_false, Option.toList_some, Option.toList_none, List.cons_append, List.nil_append, qput_mk, qiast_mk, qup_at, exF, qnF0, qnF1, qnF2, qnF3, qnF4, qnF5, qnF6, qnF7, qnF8, qnF9, qnF10, qnF11]
  exact hend
set_option maxRecDepth 100000 in
set_option maxHeartbeats 8000000 in
theorem law_2 {f : Nat → qC} {xs : Nat → Int32} (h0 : f 0 = .inl (0, 7, .inl xs)) : ∃ h2, qEv 1000 3 qk_318 282 [some (.ref 0), some (.ref 16), some (.ref 55), some (.int 0)] [] (hF f, 97, 78870) (some (.int 1), h2) ∧ h2.2 = (97, 78870) := by
  have hp : ∃ v, prI 135 216 [.int (xs 1)] (991 + 9) 78870 f v := pa_body
  obtain ⟨v, h1, e1, h2, e2, e3⟩ := hp
  have e1 : qMC 1000 135 [.ref 16, .int (xs 1)] (hF f, 97, 78870) (some (.int v), h1) := e1
  have e2 : qMC 1000 216 [.ref 55, .int (xs 1)] h1 (some (.int v), h2) := e2
  have k1 := e1.keep
  have k2 := e2.keep
  have g0 : hF f 0 = .inl (0, 7, .inl xs) := (hF_lo (by omega)).trans h0
  have g1 : h1.1 0 = .inl (0, 7, .inl xs) := (k1.2.2.2 (show 16 ≤ 97 by decide) 0 (by omega)).trans g0
  have g2 : h2.1 0 = .inl (0, 7, .inl xs) := (k2.2.2.2 (Nat.le_trans (show 16 ≤ 97 by decide) k1.1) 0 (by omega)).trans g1
  have hm1 : (55 < h1.2.1) = True := eq_true (Nat.lt_of_lt_of_le (show 55 < 97 by decide) k1.1)
  have hm2 : (∃ F, h1.1 55 = .inr (11, F)) = True := eq_true (k1.obj (show 55 < 97 by decide) (hF_55 (f := f)))
  have hend := law_last g2
  refine ⟨h2, ?_, e3⟩
  obtain ⟨h1f, h1n, h1s⟩ := h1
  simp only [e318_282, e318_283, e318_284, e318_285, e318_286, e318_287, e318_288, e318_291, e318_292, e318_293, e318_294, e318_295, e318_296, e318_297, e318_300, e318_303, e318_304, hF_16, hF_55, ald_s g0 (i := 1) (j := 1) (by decide) (by decide), ald_s g0 (i := 2) (j := 2) (by decide) (by decide), ald_s g0 (i := 3) (j := 3) (by decide) (by decide), ald_s g0 (i := 4) (j := 4) (by decide) (by decide), ald_s g0 (i := 5) (j := 5) (by decide) (by decide), ald_s g0 (i := 6) (j := 6) (by decide) (by decide), ald_s g1 (i := 1) (j := 1) (by decide) (by decide), ald_s g1 (i := 2) (j := 2) (by decide) (by decide), ald_s g1 (i := 3) (j := 3) (by decide) (by decide), ald_s g1 (i := 4) (j := 4) (by decide) (by decide), ald_s g1 (i := 5) (j := 5) (by decide) (by decide), ald_s g1 (i := 6) (j := 6) (by decide) (by decide), show (0 : Int32) + 1 = 1 from rfl, show (0 : Int32) + 2 = 2 from rfl, show (0 : Int32) + 3 = 3 from rfl, show (0 : Int32) + 4 = 4 from rfl, show (0 : Int32) + 5 = 5 from rfl, show (0 : Int32) + 6 = 6 from rfl, qMC_det e1, qMC_det e2, hm1, hm2, lg_self, eq_self, ↓reduceIte, qg_7, qg_8, qg_9, qg_10, qg_11, not_true_eq_false, not_false_eq_true, Nat.reduceBEq, Bool.false_eq_true, Nat.reduceMul, qg_0, qg_1, qg_2, qg_3, qg_4, qg_5, qg_6, ex1, ex3, ex4, qfit_i, qfit_l, qfit_r, qfit_n, qfit_b0, qfit_b1, qcat_i, qcat_r, qcat_n, qcat_l, qroom_0, qroom_c, List.map_cons, List.map_nil, List.sum_cons, List.sum_nil, Nat.reduceAdd, Nat.reduceLT, Nat.reduceLeDiff, Nat.reduceEqDiff, Nat.reduceSub, decide_true, true_and, and_true, and_self, if_true, if_false, Option.toList_some, Option.toList_none, List.cons_append, List.nil_append, qput_mk, qiast_mk, qup_at, exF, qnF0, qnF1, qnF2, qnF3, qnF4, qnF5, qnF6, qnF7, qnF8, qnF9, qnF10, qnF11]
  exact hend
set_option maxRecDepth 100000 in
set_option maxHeartbeats 8000000 in
theorem law_3 {f : Nat → qC} {xs : Nat → Int32} (h0 : f 0 = .inl (0, 7, .inl xs)) : ∃ h2, qEv 1000 3 qk_318 305 [some (.ref 0), some (.ref 16), some (.ref 55), some (.int 0)] [] (hF f, 97, 78870) (some (.int 1), h2) ∧ h2.2 = (97, 78870) := by
  have hp : ∃ v, prI 136 222 [.int (xs 1), .int (xs 2), .int (xs 3), .int (xs 4), .int (xs 5), .int (xs 6)] (991 + 9) 78870 f v := pa_cut
  obtain ⟨v, h1, e1, h2, e2, e3⟩ := hp
  have e1 : qMC 1000 136 [.ref 16, .int (xs 1), .int (xs 2), .int (xs 3), .int (xs 4), .int (xs 5), .int (xs 6)] (hF f, 97, 78870) (some (.int v), h1) := e1
  have e2 : qMC 1000 222 [.ref 55, .int (xs 1), .int (xs 2), .int (xs 3), .int (xs 4), .int (xs 5), .int (xs 6)] h1 (some (.int v), h2) := e2
  have k1 := e1.keep
  have k2 := e2.keep
  have g0 : hF f 0 = .inl (0, 7, .inl xs) := (hF_lo (by omega)).trans h0
  have g1 : h1.1 0 = .inl (0, 7, .inl xs) := (k1.2.2.2 (show 16 ≤ 97 by decide) 0 (by omega)).trans g0
  have g2 : h2.1 0 = .inl (0, 7, .inl xs) := (k2.2.2.2 (Nat.le_trans (show 16 ≤ 97 by decide) k1.1) 0 (by omega)).trans g1
  have hm1 : (55 < h1.2.1) = True := eq_true (Nat.lt_of_lt_of_le (show 55 < 97 by decide) k1.1)
  have hm2 : (∃ F, h1.1 55 = .inr (11, F)) = True := eq_true (k1.obj (show 55 < 97 by decide) (hF_55 (f := f)))
  have hend := law_last g2
  refine ⟨h2, ?_, e3⟩
  obtain ⟨h1f, h1n, h1s⟩ := h1
  simp only [e318_305, e318_306, e318_307, e318_308, e318_309, e318_310, e318_311, e318_312, e318_313, e318_314, e318_315, e318_316, e318_317, e318_318, e318_319, e318_320, e318_321, e318_322, e318_323, e318_324, e318_325, e318_326, e318_327, e318_328, e318_329, e318_330, e318_331, e318_332, e318_333, e318_335, e318_336, e318_337, e318_340, e318_341, e318_342, e318_343, e318_344, e318_345, e318_346, e318_347, e318_348, e318_349, e318_350, e318_351, e318_352, e318_353, e318_354, e318_355, e318_356, e318_357, e318_358, e318_359, e318_360, e318_361, e318_362, e318_363, e318_364, e318_365, e318_366, e318_367, e318_368, e318_370, e318_371, e318_372, e318_375, e318_378, e318_379, hF_16, hF_55, ald_s g0 (i := 1) (j := 1) (by decide) (by decide), ald_s g0 (i := 2) (j := 2) (by decide) (by decide), ald_s g0 (i := 3) (j := 3) (by decide) (by decide), ald_s g0 (i := 4) (j := 4) (by decide) (by decide), ald_s g0 (i := 5) (j := 5) (by decide) (by decide), ald_s g0 (i := 6) (j := 6) (by decide) (by decide), ald_s g1 (i := 1) (j := 1) (by decide) (by decide), ald_s g1 (i := 2) (j := 2) (by decide) (by decide), ald_s g1 (i := 3) (j := 3) (by decide) (by decide), ald_s g1 (i := 4) (j := 4) (by decide) (by decide), ald_s g1 (i := 5) (j := 5) (by decide) (by decide), ald_s g1 (i := 6) (j := 6) (by decide) (by decide), show (0 : Int32) + 1 = 1 from rfl, show (0 : Int32) + 2 = 2 from rfl, show (0 : Int32) + 3 = 3 from rfl, show (0 : Int32) + 4 = 4 from rfl, show (0 : Int32) + 5 = 5 from rfl, show (0 : Int32) + 6 = 6 from rfl, qMC_det e1, qMC_det e2, hm1, hm2, lg_self, eq_self, ↓reduceIte, qg_7, qg_8, qg_9, qg_10, qg_11, not_true_eq_false, not_false_eq_true, Nat.reduceBEq, Bool.false_eq_true, Nat.reduceMul, qg_0, qg_1, qg_2, qg_3, qg_4, qg_5, qg_6, ex1, ex3, ex4, qfit_i, qfit_l, qfit_r, qfit_n, qfit_b0, qfit_b1, qcat_i, qcat_r, qcat_n, qcat_l, qroom_0, qroom_c, List.map_cons, List.map_nil, List.sum_cons, List.sum_nil, Nat.reduceAdd, Nat.reduceLT, Nat.reduceLeDiff, Nat.reduceEqDiff, Nat.reduceSub, decide_true, true_and, and_true, and_self, if_true, if_false, Option.toList_some, Option.toList_none, List.cons_append, List.nil_append, qput_mk, qiast_mk, qup_at, exF, qnF0, qnF1, qnF2, qnF3, qnF4, qnF5, qnF6, qnF7, qnF8, qnF9, qnF10, qnF11]
  exact hend
set_option maxRecDepth 100000 in
set_option maxHeartbeats 8000000 in
theorem law_4 {f : Nat → qC} {xs : Nat → Int32} (h0 : f 0 = .inl (0, 7, .inl xs)) : ∃ h2, qEv 1000 3 qk_318 380 [some (.ref 0), some (.ref 16), some (.ref 55), some (.int 0)] [] (hF f, 97, 78870) (some (.int 1), h2) ∧ h2.2 = (97, 78870) := by
  have hp : ∃ v, prI 137 223 [.int (xs 1), .int (xs 2), .int (xs 3)] (991 + 9) 78870 f v := pa_slice
  obtain ⟨v, h1, e1, h2, e2, e3⟩ := hp
  have e1 : qMC 1000 137 [.ref 16, .int (xs 1), .int (xs 2), .int (xs 3)] (hF f, 97, 78870) (some (.int v), h1) := e1
  have e2 : qMC 1000 223 [.ref 55, .int (xs 1), .int (xs 2), .int (xs 3)] h1 (some (.int v), h2) := e2
  have k1 := e1.keep
  have k2 := e2.keep
  have g0 : hF f 0 = .inl (0, 7, .inl xs) := (hF_lo (by omega)).trans h0
  have g1 : h1.1 0 = .inl (0, 7, .inl xs) := (k1.2.2.2 (show 16 ≤ 97 by decide) 0 (by omega)).trans g0
  have g2 : h2.1 0 = .inl (0, 7, .inl xs) := (k2.2.2.2 (Nat.le_trans (show 16 ≤ 97 by decide) k1.1) 0 (by omega)).trans g1
  have hm1 : (55 < h1.2.1) = True := eq_true (Nat.lt_of_lt_of_le (show 55 < 97 by decide) k1.1)
  have hm2 : (∃ F, h1.1 55 = .inr (11, F)) = True := eq_true (k1.obj (show 55 < 97 by decide) (hF_55 (f := f)))
  have hend := law_last g2
  refine ⟨h2, ?_, e3⟩
  obtain ⟨h1f, h1n, h1s⟩ := h1
  simp only [e318_380, e318_381, e318_382, e318_383, e318_384, e318_385, e318_386, e318_387, e318_388, e318_389, e318_390, e318_391, e318_392, e318_393, e318_394, e318_395, e318_396, e318_399, e318_400, e318_401, e318_402, e318_403, e318_404, e318_405, e318_406, e318_407, e318_408, e318_409, e318_410, e318_411, e318_412, e318_413, e318_414, e318_415, e318_418, e318_421, e318_422, hF_16, hF_55, ald_s g0 (i := 1) (j := 1) (by decide) (by decide), ald_s g0 (i := 2) (j := 2) (by decide) (by decide), ald_s g0 (i := 3) (j := 3) (by decide) (by decide), ald_s g0 (i := 4) (j := 4) (by decide) (by decide), ald_s g0 (i := 5) (j := 5) (by decide) (by decide), ald_s g0 (i := 6) (j := 6) (by decide) (by decide), ald_s g1 (i := 1) (j := 1) (by decide) (by decide), ald_s g1 (i := 2) (j := 2) (by decide) (by decide), ald_s g1 (i := 3) (j := 3) (by decide) (by decide), ald_s g1 (i := 4) (j := 4) (by decide) (by decide), ald_s g1 (i := 5) (j := 5) (by decide) (by decide), ald_s g1 (i := 6) (j := 6) (by decide) (by decide), show (0 : Int32) + 1 = 1 from rfl, show (0 : Int32) + 2 = 2 from rfl, show (0 : Int32) + 3 = 3 from rfl, show (0 : Int32) + 4 = 4 from rfl, show (0 : Int32) + 5 = 5 from rfl, show (0 : Int32) + 6 = 6 from rfl, qMC_det e1, qMC_det e2, hm1, hm2, lg_self, eq_self, ↓reduceIte, qg_7, qg_8, qg_9, qg_10, qg_11, not_true_eq_false, not_false_eq_true, Nat.reduceBEq, Bool.false_eq_true, Nat.reduceMul, qg_0, qg_1, qg_2, qg_3, qg_4, qg_5, qg_6, ex1, ex3, ex4, qfit_i, qfit_l, qfit_r, qfit_n, qfit_b0, qfit_b1, qcat_i, qcat_r, qcat_n, qcat_l, qroom_0, qroom_c, List.map_cons, List.map_nil, List.sum_cons, List.sum_nil, Nat.reduceAdd, Nat.reduceLT, Nat.reduceLeDiff, Nat.reduceEqDiff, Nat.reduceSub, decide_true, true_and, and_true, and_self, if_true, if_false, Option.toList_some, Option.toList_none, List.cons_append, List.nil_append, qput_mk, qiast_mk, qup_at, exF, qnF0, qnF1, qnF2, qnF3, qnF4, qnF5, qnF6, qnF7, qnF8, qnF9, qnF10, qnF11]
  exact hend
set_option maxRecDepth 100000 in
set_option maxHeartbeats 8000000 in
theorem law_5 {f : Nat → qC} {xs : Nat → Int32} (h0 : f 0 = .inl (0, 7, .inl xs)) : ∃ h2, qEv 1000 3 qk_318 423 [some (.ref 0), some (.ref 16), some (.ref 55), some (.int 0)] [] (hF f, 97, 78870) (some (.int 1), h2) ∧ h2.2 = (97, 78870) := by
  have hp : ∃ v, prI 138 225 [.int (xs 1), .int (xs 2)] (991 + 9) 78870 f v := pa_shadow
  obtain ⟨v, h1, e1, h2, e2, e3⟩ := hp
  have e1 : qMC 1000 138 [.ref 16, .int (xs 1), .int (xs 2)] (hF f, 97, 78870) (some (.int v), h1) := e1
  have e2 : qMC 1000 225 [.ref 55, .int (xs 1), .int (xs 2)] h1 (some (.int v), h2) := e2
  have k1 := e1.keep
  have k2 := e2.keep
  have g0 : hF f 0 = .inl (0, 7, .inl xs) := (hF_lo (by omega)).trans h0
  have g1 : h1.1 0 = .inl (0, 7, .inl xs) := (k1.2.2.2 (show 16 ≤ 97 by decide) 0 (by omega)).trans g0
  have g2 : h2.1 0 = .inl (0, 7, .inl xs) := (k2.2.2.2 (Nat.le_trans (show 16 ≤ 97 by decide) k1.1) 0 (by omega)).trans g1
  have hm1 : (55 < h1.2.1) = True := eq_true (Nat.lt_of_lt_of_le (show 55 < 97 by decide) k1.1)
  have hm2 : (∃ F, h1.1 55 = .inr (11, F)) = True := eq_true (k1.obj (show 55 < 97 by decide) (hF_55 (f := f)))
  have hend := law_last g2
  refine ⟨h2, ?_, e3⟩
  obtain ⟨h1f, h1n, h1s⟩ := h1
  simp only [e318_423, e318_424, e318_425, e318_426, e318_427, e318_428, e318_429, e318_430, e318_431, e318_432, e318_433, e318_434, e318_437, e318_438, e318_439, e318_440, e318_441, e318_442, e318_443, e318_444, e318_445, e318_446, e318_447, e318_448, e318_451, e318_454, e318_455, hF_16, hF_55, ald_s g0 (i := 1) (j := 1) (by decide) (by decide), ald_s g0 (i := 2) (j := 2) (by decide) (by decide), ald_s g0 (i := 3) (j := 3) (by decide) (by decide), ald_s g0 (i := 4) (j := 4) (by decide) (by decide), ald_s g0 (i := 5) (j := 5) (by decide) (by decide), ald_s g0 (i := 6) (j := 6) (by decide) (by decide), ald_s g1 (i := 1) (j := 1) (by decide) (by decide), ald_s g1 (i := 2) (j := 2) (by decide) (by decide), ald_s g1 (i := 3) (j := 3) (by decide) (by decide), ald_s g1 (i := 4) (j := 4) (by decide) (by decide), ald_s g1 (i := 5) (j := 5) (by decide) (by decide), ald_s g1 (i := 6) (j := 6) (by decide) (by decide), show (0 : Int32) + 1 = 1 from rfl, show (0 : Int32) + 2 = 2 from rfl, show (0 : Int32) + 3 = 3 from rfl, show (0 : Int32) + 4 = 4 from rfl, show (0 : Int32) + 5 = 5 from rfl, show (0 : Int32) + 6 = 6 from rfl, qMC_det e1, qMC_det e2, hm1, hm2, lg_self, eq_self, ↓reduceIte, qg_7, qg_8, qg_9, qg_10, qg_11, not_true_eq_false, not_false_eq_true, Nat.reduceBEq, Bool.false_eq_true, Nat.reduceMul, qg_0, qg_1, qg_2, qg_3, qg_4, qg_5, qg_6, ex1, ex3, ex4, qfit_i, qfit_l, qfit_r, qfit_n, qfit_b0, qfit_b1, qcat_i, qcat_r, qcat_n, qcat_l, qroom_0, qroom_c, List.map_cons, List.map_nil, List.sum_cons, List.sum_nil, Nat.reduceAdd, Nat.reduceLT, Nat.reduceLeDiff, Nat.reduceEqDiff, Nat.reduceSub, decide_true, true_and, and_true, and_self, if_true, if_false, Option.toList_some, Option.toList_none, List.cons_append, List.nil_append, qput_mk, qiast_mk, qup_at, exF, qnF0, qnF1, qnF2, qnF3, qnF4, qnF5, qnF6, qnF7, qnF8, qnF9, qnF10, qnF11]
  exact hend
set_option maxRecDepth 100000 in
set_option maxHeartbeats 8000000 in
theorem law_6 {f : Nat → qC} {xs : Nat → Int32} (h0 : f 0 = .inl (0, 7, .inl xs)) : ∃ h2, qEv 1000 3 qk_318 456 [some (.ref 0), some (.ref 16), some (.ref 55), some (.int 0)] [] (hF f, 97, 78870) (some (.int 1), h2) ∧ h2.2 = (97, 78870) := by
  have hp : ∃ v, prI 139 227 [.int (xs 1), .int (xs 2), .int (xs 3)] (991 + 9) 78870 f v := pa_raise
  obtain ⟨v, h1, e1, h2, e2, e3⟩ := hp
  have e1 : qMC 1000 139 [.ref 16, .int (xs 1), .int (xs 2), .int (xs 3)] (hF f, 97, 78870) (some (.int v), h1) := e1
  have e2 : qMC 1000 227 [.ref 55, .int (xs 1), .int (xs 2), .int (xs 3)] h1 (some (.int v), h2) := e2
  have k1 := e1.keep
  have k2 := e2.keep
  have g0 : hF f 0 = .inl (0, 7, .inl xs) := (hF_lo (by omega)).trans h0
  have g1 : h1.1 0 = .inl (0, 7, .inl xs) := (k1.2.2.2 (show 16 ≤ 97 by decide) 0 (by omega)).trans g0
  have g2 : h2.1 0 = .inl (0, 7, .inl xs) := (k2.2.2.2 (Nat.le_trans (show 16 ≤ 97 by decide) k1.1) 0 (by omega)).trans g1
  have hm1 : (55 < h1.2.1) = True := eq_true (Nat.lt_of_lt_of_le (show 55 < 97 by decide) k1.1)
  have hm2 : (∃ F, h1.1 55 = .inr (11, F)) = True := eq_true (k1.obj (show 55 < 97 by decide) (hF_55 (f := f)))
  have hend := law_last g2
  refine ⟨h2, ?_, e3⟩
  obtain ⟨h1f, h1n, h1s⟩ := h1
  simp only [e318_456, e318_457, e318_458, e318_459, e318_460, e318_461, e318_462, e318_463, e318_464, e318_465, e318_466, e318_467, e318_468, e318_469, e318_470, e318_471, e318_472, e318_475, e318_476, e318_477, e318_478, e318_479, e318_480, e318_481, e318_482, e318_483, e318_484, e318_485, e318_486, e318_487, e318_488, e318_489, e318_490, e318_491, e318_494, e318_497, e318_498, hF_16, hF_55, ald_s g0 (i := 1) (j := 1) (by decide) (by decide), ald_s g0 (i := 2) (j := 2) (by decide) (by decide), ald_s g0 (i := 3) (j := 3) (by decide) (by decide), ald_s g0 (i := 4) (j := 4) (by decide) (by decide), ald_s g0 (i := 5) (j := 5) (by decide) (by decide), ald_s g0 (i := 6) (j := 6) (by decide) (by decide), ald_s g1 (i := 1) (j := 1) (by decide) (by decide), ald_s g1 (i := 2) (j := 2) (by decide) (by decide), ald_s g1 (i := 3) (j := 3) (by decide) (by decide), ald_s g1 (i := 4) (j := 4) (by decide) (by decide), ald_s g1 (i := 5) (j := 5) (by decide) (by decide), ald_s g1 (i := 6) (j := 6) (by decide) (by decide), show (0 : Int32) + 1 = 1 from rfl, show (0 : Int32) + 2 = 2 from rfl, show (0 : Int32) + 3 = 3 from rfl, show (0 : Int32) + 4 = 4 from rfl, show (0 : Int32) + 5 = 5 from rfl, show (0 : Int32) + 6 = 6 from rfl, qMC_det e1, qMC_det e2, hm1, hm2, lg_self, eq_self, ↓reduceIte, qg_7, qg_8, qg_9, qg_10, qg_11, not_true_eq_false, not_false_eq_true, Nat.reduceBEq, Bool.false_eq_true, Nat.reduceMul, qg_0, qg_1, qg_2, qg_3, qg_4, qg_5, qg_6, ex1, ex3, ex4, qfit_i, qfit_l, qfit_r, qfit_n, qfit_b0, qfit_b1, qcat_i, qcat_r, qcat_n, qcat_l, qroom_0, qroom_c, List.map_cons, List.map_nil, List.sum_cons, List.sum_nil, Nat.reduceAdd, Nat.reduceLT, Nat.reduceLeDiff, Nat.reduceEqDiff, Nat.reduceSub, decide_true, true_and, and_true, and_self, if_true, if_false, Option.toList_some, Option.toList_none, List.cons_append, List.nil_append, qput_mk, qiast_mk, qup_at, exF, qnF0, qnF1, qnF2, qnF3, qnF4, qnF5, qnF6, qnF7, qnF8, qnF9, qnF10, qnF11]
  exact hend
set_option maxRecDepth 100000 in
set_option maxHeartbeats 8000000 in
theorem law_7 {f : Nat → qC} {xs : Nat → Int32} (h0 : f 0 = .inl (0, 7, .inl xs)) : ∃ h2, qEv 1000 3 qk_318 499 [some (.ref 0), some (.ref 16), some (.ref 55), some (.int 0)] [] (hF f, 97, 78870) (some (.int 1), h2) ∧ h2.2 = (97, 78870) := by
  have hp : ∃ v, prI 140 228 [.int (xs 1), .int (xs 2)] (991 + 9) 78870 f v := pa_product
  obtain ⟨v, h1, e1, h2, e2, e3⟩ := hp
  have e1 : qMC 1000 140 [.ref 16, .int (xs 1), .int (xs 2)] (hF f, 97, 78870) (some (.int v), h1) := e1
  have e2 : qMC 1000 228 [.ref 55, .int (xs 1), .int (xs 2)] h1 (some (.int v), h2) := e2
  have k1 := e1.keep
  have k2 := e2.keep
  have g0 : hF f 0 = .inl (0, 7, .inl xs) := (hF_lo (by omega)).trans h0
  have g1 : h1.1 0 = .inl (0, 7, .inl xs) := (k1.2.2.2 (show 16 ≤ 97 by decide) 0 (by omega)).trans g0
  have g2 : h2.1 0 = .inl (0, 7, .inl xs) := (k2.2.2.2 (Nat.le_trans (show 16 ≤ 97 by decide) k1.1) 0 (by omega)).trans g1
  have hm1 : (55 < h1.2.1) = True := eq_true (Nat.lt_of_lt_of_le (show 55 < 97 by decide) k1.1)
  have hm2 : (∃ F, h1.1 55 = .inr (11, F)) = True := eq_true (k1.obj (show 55 < 97 by decide) (hF_55 (f := f)))
  have hend := law_last g2
  refine ⟨h2, ?_, e3⟩
  obtain ⟨h1f, h1n, h1s⟩ := h1
  simp only [e318_499, e318_500, e318_501, e318_502, e318_503, e318_504, e318_505, e318_506, e318_507, e318_508, e318_509, e318_510, e318_513, e318_514, e318_515, e318_516, e318_517, e318_518, e318_519, e318_520, e318_521, e318_522, e318_523, e318_524, e318_527, e318_530, e318_531, hF_16, hF_55, ald_s g0 (i := 1) (j := 1) (by decide) (by decide), ald_s g0 (i := 2) (j := 2) (by decide) (by decide), ald_s g0 (i := 3) (j := 3) (by decide) (by decide), ald_s g0 (i := 4) (j := 4) (by decide) (by decide), ald_s g0 (i := 5) (j := 5) (by decide) (by decide), ald_s g0 (i := 6) (j := 6) (by decide) (by decide), ald_s g1 (i := 1) (j := 1) (by decide) (by decide), ald_s g1 (i := 2) (j := 2) (by decide) (by decide), ald_s g1 (i := 3) (j := 3) (by decide) (by decide), ald_s g1 (i := 4) (j := 4) (by decide) (by decide), ald_s g1 (i := 5) (j := 5) (by decide) (by decide), ald_s g1 (i := 6) (j := 6) (by decide) (by decide), show (0 : Int32) + 1 = 1 from rfl, show (0 : Int32) + 2 = 2 from rfl, show (0 : Int32) + 3 = 3 from rfl, show (0 : Int32) + 4 = 4 from rfl, show (0 : Int32) + 5 = 5 from rfl, show (0 : Int32) + 6 = 6 from rfl, qMC_det e1, qMC_det e2, hm1, hm2, lg_self, eq_self, ↓reduceIte, qg_7, qg_8, qg_9, qg_10, qg_11, not_true_eq_false, not_false_eq_true, Nat.reduceBEq, Bool.false_eq_true, Nat.reduceMul, qg_0, qg_1, qg_2, qg_3, qg_4, qg_5, qg_6, ex1, ex3, ex4, qfit_i, qfit_l, qfit_r, qfit_n, qfit_b0, qfit_b1, qcat_i, qcat_r, qcat_n, qcat_l, qroom_0, qroom_c, List.map_cons, List.map_nil, List.sum_cons, List.sum_nil, Nat.reduceAdd, Nat.reduceLT, Nat.reduceLeDiff, Nat.reduceEqDiff, Nat.reduceSub, decide_true, true_and, and_true, and_self, if_true, if_false, Option.toList_some, Option.toList_none, List.cons_append, List.nil_append, qput_mk, qiast_mk, qup_at, exF, qnF0, qnF1, qnF2, qnF3, qnF4, qnF5, qnF6, qnF7, qnF8, qnF9, qnF10, qnF11]
  exact hend
set_option maxRecDepth 100000 in
set_option maxHeartbeats 8000000 in
theorem law_8 {f : Nat → qC} {xs : Nat → Int32} (h0 : f 0 = .inl (0, 7, .inl xs)) : ∃ h2, qEv 1000 3 qk_318 532 [some (.ref 0), some (.ref 16), some (.ref 55), some (.int 0)] [] (hF f, 97, 78870) (some (.int 1), h2) ∧ h2.2 = (97, 78870) := by
  have hp : ∃ v, prI 141 229 [.int (xs 1), .int (xs 2)] (991 + 9) 78870 f v := pa_both
  obtain ⟨v, h1, e1, h2, e2, e3⟩ := hp
  have e1 : qMC 1000 141 [.ref 16, .int (xs 1), .int (xs 2)] (hF f, 97, 78870) (some (.int v), h1) := e1
  have e2 : qMC 1000 229 [.ref 55, .int (xs 1), .int (xs 2)] h1 (some (.int v), h2) := e2
  have k1 := e1.keep
  have k2 := e2.keep
  have g0 : hF f 0 = .inl (0, 7, .inl xs) := (hF_lo (by omega)).trans h0
  have g1 : h1.1 0 = .inl (0, 7, .inl xs) := (k1.2.2.2 (show 16 ≤ 97 by decide) 0 (by omega)).trans g0
  have g2 : h2.1 0 = .inl (0, 7, .inl xs) := (k2.2.2.2 (Nat.le_trans (show 16 ≤ 97 by decide) k1.1) 0 (by omega)).trans g1
  have hm1 : (55 < h1.2.1) = True := eq_true (Nat.lt_of_lt_of_le (show 55 < 97 by decide) k1.1)
  have hm2 : (∃ F, h1.1 55 = .inr (11, F)) = True := eq_true (k1.obj (show 55 < 97 by decide) (hF_55 (f := f)))
  have hend := law_last g2
  refine ⟨h2, ?_, e3⟩
  obtain ⟨h1f, h1n, h1s⟩ := h1
  simp only [e318_532, e318_533, e318_534, e318_535, e318_536, e318_537, e318_538, e318_539, e318_540, e318_541, e318_542, e318_543, e318_546, e318_547, e318_548, e318_549, e318_550, e318_551, e318_552, e318_553, e318_554, e318_555, e318_556, e318_557, e318_560, e318_563, e318_564, hF_16, hF_55, ald_s g0 (i := 1) (j := 1) (by decide) (by decide), ald_s g0 (i := 2) (j := 2) (by decide) (by decide), ald_s g0 (i := 3) (j := 3) (by decide) (by decide), ald_s g0 (i := 4) (j := 4) (by decide) (by decide), ald_s g0 (i := 5) (j := 5) (by decide) (by decide), ald_s g0 (i := 6) (j := 6) (by decide) (by decide), ald_s g1 (i := 1) (j := 1) (by decide) (by decide), ald_s g1 (i := 2) (j := 2) (by decide) (by decide), ald_s g1 (i := 3) (j := 3) (by decide) (by decide), ald_s g1 (i := 4) (j := 4) (by decide) (by decide), ald_s g1 (i := 5) (j := 5) (by decide) (by decide), ald_s g1 (i := 6) (j := 6) (by decide) (by decide), show (0 : Int32) + 1 = 1 from rfl, show (0 : Int32) + 2 = 2 from rfl, show (0 : Int32) + 3 = 3 from rfl, show (0 : Int32) + 4 = 4 from rfl, show (0 : Int32) + 5 = 5 from rfl, show (0 : Int32) + 6 = 6 from rfl, qMC_det e1, qMC_det e2, hm1, hm2, lg_self, eq_self, ↓reduceIte, qg_7, qg_8, qg_9, qg_10, qg_11, not_true_eq_false, not_false_eq_true, Nat.reduceBEq, Bool.false_eq_true, Nat.reduceMul, qg_0, qg_1, qg_2, qg_3, qg_4, qg_5, qg_6, ex1, ex3, ex4, qfit_i, qfit_l, qfit_r, qfit_n, qfit_b0, qfit_b1, qcat_i, qcat_r, qcat_n, qcat_l, qroom_0, qroom_c, List.map_cons, List.map_nil, List.sum_cons, List.sum_nil, Nat.reduceAdd, Nat.reduceLT, Nat.reduceLeDiff, Nat.reduceEqDiff, Nat.reduceSub, decide_true, true_and, and_true, and_self, if_true, if_false, Option.toList_some, Option.toList_none, List.cons_append, List.nil_append, qput_mk, qiast_mk, qup_at, exF, qnF0, qnF1, qnF2, qnF3, qnF4, qnF5, qnF6, qnF7, qnF8, qnF9, qnF10, qnF11]
  exact hend
set_option maxRecDepth 100000 in
set_option maxHeartbeats 8000000 in
theorem law_9 {f : Nat → qC} {xs : Nat → Int32} (h0 : f 0 = .inl (0, 7, .inl xs)) : ∃ h2, qEv 1000 3 qk_318 565 [some (.ref 0), some (.ref 16), some (.ref 55), some (.int 0)] [] (hF f, 97, 78870) (some (.int 1), h2) ∧ h2.2 = (97, 78870) := by
  have hp : ∃ v, prI 142 233 [.int (xs 1), .int (xs 2)] (991 + 9) 78870 f v := pa_about
  obtain ⟨v, h1, e1, h2, e2, e3⟩ := hp
  have e1 : qMC 1000 142 [.ref 16, .int (xs 1), .int (xs 2)] (hF f, 97, 78870) (some (.int v), h1) := e1
  have e2 : qMC 1000 233 [.ref 55, .int (xs 1), .int (xs 2)] h1 (some (.int v), h2) := e2
  have k1 := e1.keep
  have k2 := e2.keep
  have g0 : hF f 0 = .inl (0, 7, .inl xs) := (hF_lo (by omega)).trans h0
  have g1 : h1.1 0 = .inl (0, 7, .inl xs) := (k1.2.2.2 (show 16 ≤ 97 by decide) 0 (by omega)).trans g0
  have g2 : h2.1 0 = .inl (0, 7, .inl xs) := (k2.2.2.2 (Nat.le_trans (show 16 ≤ 97 by decide) k1.1) 0 (by omega)).trans g1
  have hm1 : (55 < h1.2.1) = True := eq_true (Nat.lt_of_lt_of_le (show 55 < 97 by decide) k1.1)
  have hm2 : (∃ F, h1.1 55 = .inr (11, F)) = True := eq_true (k1.obj (show 55 < 97 by decide) (hF_55 (f := f)))
  have hend := law_last g2
  refine ⟨h2, ?_, e3⟩
  obtain ⟨h1f, h1n, h1s⟩ := h1
  simp only [e318_565, e318_566, e318_567, e318_568, e318_569, e318_570, e318_571, e318_572, e318_573, e318_574, e318_575, e318_576, e318_579, e318_580, e318_581, e318_582, e318_583, e318_584, e318_585, e318_586, e318_587, e318_588, e318_589, e318_590, e318_593, e318_596, e318_597, hF_16, hF_55, ald_s g0 (i := 1) (j := 1) (by decide) (by decide), ald_s g0 (i := 2) (j := 2) (by decide) (by decide), ald_s g0 (i := 3) (j := 3) (by decide) (by decide), ald_s g0 (i := 4) (j := 4) (by decide) (by decide), ald_s g0 (i := 5) (j := 5) (by decide) (by decide), ald_s g0 (i := 6) (j := 6) (by decide) (by decide), ald_s g1 (i := 1) (j := 1) (by decide) (by decide), ald_s g1 (i := 2) (j := 2) (by decide) (by decide), ald_s g1 (i := 3) (j := 3) (by decide) (by decide), ald_s g1 (i := 4) (j := 4) (by decide) (by decide), ald_s g1 (i := 5) (j := 5) (by decide) (by decide), ald_s g1 (i := 6) (j := 6) (by decide) (by decide), show (0 : Int32) + 1 = 1 from rfl, show (0 : Int32) + 2 = 2 from rfl, show (0 : Int32) + 3 = 3 from rfl, show (0 : Int32) + 4 = 4 from rfl, show (0 : Int32) + 5 = 5 from rfl, show (0 : Int32) + 6 = 6 from rfl, qMC_det e1, qMC_det e2, hm1, hm2, lg_self, eq_self, ↓reduceIte, qg_7, qg_8, qg_9, qg_10, qg_11, not_true_eq_false, not_false_eq_true, Nat.reduceBEq, Bool.false_eq_true, Nat.reduceMul, qg_0, qg_1, qg_2, qg_3, qg_4, qg_5, qg_6, ex1, ex3, ex4, qfit_i, qfit_l, qfit_r, qfit_n, qfit_b0, qfit_b1, qcat_i, qcat_r, qcat_n, qcat_l, qroom_0, qroom_c, List.map_cons, List.map_nil, List.sum_cons, List.sum_nil, Nat.reduceAdd, Nat.reduceLT, Nat.reduceLeDiff, Nat.reduceEqDiff, Nat.reduceSub, decide_true, true_and, and_true, and_self, if_true, if_false, Option.toList_some, Option.toList_none, List.cons_append, List.nil_append, qput_mk, qiast_mk, qup_at, exF, qnF0, qnF1, qnF2, qnF3, qnF4, qnF5, qnF6, qnF7, qnF8, qnF9, qnF10, qnF11]
  exact hend
set_option maxRecDepth 100000 in
set_option maxHeartbeats 8000000 in
theorem law_10 {f : Nat → qC} {xs : Nat → Int32} (h0 : f 0 = .inl (0, 7, .inl xs)) : ∃ h2, qEv 1000 3 qk_318 598 [some (.ref 0), some (.ref 16), some (.ref 55), some (.int 0)] [] (hF f, 97, 78870) (some (.int 1), h2) ∧ h2.2 = (97, 78870) := by
  have hp : ∃ v, prI 143 235 [.int (xs 1), .int (xs 2), .int (xs 3)] (991 + 9) 78870 f v := pa_corner
  obtain ⟨v, h1, e1, h2, e2, e3⟩ := hp
  have e1 : qMC 1000 143 [.ref 16, .int (xs 1), .int (xs 2), .int (xs 3)] (hF f, 97, 78870) (some (.int v), h1) := e1
  have e2 : qMC 1000 235 [.ref 55, .int (xs 1), .int (xs 2), .int (xs 3)] h1 (some (.int v), h2) := e2
  have k1 := e1.keep
  have k2 := e2.keep
  have g0 : hF f 0 = .inl (0, 7, .inl xs) := (hF_lo (by omega)).trans h0
  have g1 : h1.1 0 = .inl (0, 7, .inl xs) := (k1.2.2.2 (show 16 ≤ 97 by decide) 0 (by omega)).trans g0
  have g2 : h2.1 0 = .inl (0, 7, .inl xs) := (k2.2.2.2 (Nat.le_trans (show 16 ≤ 97 by decide) k1.1) 0 (by omega)).trans g1
  have hm1 : (55 < h1.2.1) = True := eq_true (Nat.lt_of_lt_of_le (show 55 < 97 by decide) k1.1)
  have hm2 : (∃ F, h1.1 55 = .inr (11, F)) = True := eq_true (k1.obj (show 55 < 97 by decide) (hF_55 (f := f)))
  have hend := law_last g2
  refine ⟨h2, ?_, e3⟩
  obtain ⟨h1f, h1n, h1s⟩ := h1
  simp only [e318_598, e318_599, e318_600, e318_601, e318_602, e318_603, e318_604, e318_605, e318_606, e318_607, e318_608, e318_609, e318_610, e318_611, e318_612, e318_613, e318_614, e318_617, e318_618, e318_619, e318_620, e318_621, e318_622, e318_623, e318_624, e318_625, e318_626, e318_627, e318_628, e318_629, e318_630, e318_631, e318_632, e318_633, e318_636, e318_639, e318_640, hF_16, hF_55, ald_s g0 (i := 1) (j := 1) (by decide) (by decide), ald_s g0 (i := 2) (j := 2) (by decide) (by decide), ald_s g0 (i := 3) (j := 3) (by decide) (by decide), ald_s g0 (i := 4) (j := 4) (by decide) (by decide), ald_s g0 (i := 5) (j := 5) (by decide) (by decide), ald_s g0 (i := 6) (j := 6) (by decide) (by decide), ald_s g1 (i := 1) (j := 1) (by decide) (by decide), ald_s g1 (i := 2) (j := 2) (by decide) (by decide), ald_s g1 (i := 3) (j := 3) (by decide) (by decide), ald_s g1 (i := 4) (j := 4) (by decide) (by decide), ald_s g1 (i := 5) (j := 5) (by decide) (by decide), ald_s g1 (i := 6) (j := 6) (by decide) (by decide), show (0 : Int32) + 1 = 1 from rfl, show (0 : Int32) + 2 = 2 from rfl, show (0 : Int32) + 3 = 3 from rfl, show (0 : Int32) + 4 = 4 from rfl, show (0 : Int32) + 5 = 5 from rfl, show (0 : Int32) + 6 = 6 from rfl, qMC_det e1, qMC_det e2, hm1, hm2, lg_self, eq_self, ↓reduceIte, qg_7, qg_8, qg_9, qg_10, qg_11, not_true_eq_false, not_false_eq_true, Nat.reduceBEq, Bool.false_eq_true, Nat.reduceMul, qg_0, qg_1, qg_2, qg_3, qg_4, qg_5, qg_6, ex1, ex3, ex4, qfit_i, qfit_l, qfit_r, qfit_n, qfit_b0, qfit_b1, qcat_i, qcat_r, qcat_n, qcat_l, qroom_0, qroom_c, List.map_cons, List.map_nil, List.sum_cons, List.sum_nil, Nat.reduceAdd, Nat.reduceLT, Nat.reduceLeDiff, Nat.reduceEqDiff, Nat.reduceSub, decide_true, true_and, and_true, and_self, if_true, if_false, Option.toList_some, Option.toList_none, List.cons_append, List.nil_append, qput_mk, qiast_mk, qup_at, exF, qnF0, qnF1, qnF2, qnF3, qnF4, qnF5, qnF6, qnF7, qnF8, qnF9, qnF10, qnF11]
  exact hend
set_option maxRecDepth 100000 in
set_option maxHeartbeats 8000000 in
theorem law_11 {f : Nat → qC} {xs : Nat → Int32} (h0 : f 0 = .inl (0, 7, .inl xs)) : ∃ h2, qEv 1000 3 qk_318 641 [some (.ref 0), some (.ref 16), some (.ref 55), some (.int 0)] [] (hF f, 97, 78870) (some (.int 1), h2) ∧ h2.2 = (97, 78870) := by
  have hp : ∃ v, prI 144 236 [.int (xs 1)] (991 + 9) 78870 f v := pa_count
  obtain ⟨v, h1, e1, h2, e2, e3⟩ := hp
  have e1 : qMC 1000 144 [.ref 16, .int (xs 1)] (hF f, 97, 78870) (some (.int v), h1) := e1
  have e2 : qMC 1000 236 [.ref 55, .int (xs 1)] h1 (some (.int v), h2) := e2
  have k1 := e1.keep
  have k2 := e2.keep
  have g0 : hF f 0 = .inl (0, 7, .inl xs) := (hF_lo (by omega)).trans h0
  have g1 : h1.1 0 = .inl (0, 7, .inl xs) := (k1.2.2.2 (show 16 ≤ 97 by decide) 0 (by omega)).trans g0
  have g2 : h2.1 0 = .inl (0, 7, .inl xs) := (k2.2.2.2 (Nat.le_trans (show 16 ≤ 97 by decide) k1.1) 0 (by omega)).trans g1
  have hm1 : (55 < h1.2.1) = True := eq_true (Nat.lt_of_lt_of_le (show 55 < 97 by decide) k1.1)
  have hm2 : (∃ F, h1.1 55 = .inr (11, F)) = True := eq_true (k1.obj (show 55 < 97 by decide) (hF_55 (f := f)))
  have hend := law_last g2
  refine ⟨h2, ?_, e3⟩
  obtain ⟨h1f, h1n, h1s⟩ := h1
  simp only [e318_641, e318_642, e318_643, e318_644, e318_645, e318_646, e318_647, e318_650, e318_651, e318_652, e318_653, e318_654, e318_655, e318_656, e318_659, e318_662, e318_663, hF_16, hF_55, ald_s g0 (i := 1) (j := 1) (by decide) (by decide), ald_s g0 (i := 2) (j := 2) (by decide) (by decide), ald_s g0 (i := 3) (j := 3) (by decide) (by decide), ald_s g0 (i := 4) (j := 4) (by decide) (by decide), ald_s g0 (i := 5) (j := 5) (by decide) (by decide), ald_s g0 (i := 6) (j := 6) (by decide) (by decide), ald_s g1 (i := 1) (j := 1) (by decide) (by decide), ald_s g1 (i := 2) (j := 2) (by decide) (by decide), ald_s g1 (i := 3) (j := 3) (by decide) (by decide), ald_s g1 (i := 4) (j := 4) (by decide) (by decide), ald_s g1 (i := 5) (j := 5) (by decide) (by decide), ald_s g1 (i := 6) (j := 6) (by decide) (by decide), show (0 : Int32) + 1 = 1 from rfl, show (0 : Int32) + 2 = 2 from rfl, show (0 : Int32) + 3 = 3 from rfl, show (0 : Int32) + 4 = 4 from rfl, show (0 : Int32) + 5 = 5 from rfl, show (0 : Int32) + 6 = 6 from rfl, qMC_det e1, qMC_det e2, hm1, hm2, lg_self, eq_self, ↓reduceIte, qg_7, qg_8, qg_9, qg_10, qg_11, not_true_eq_false, not_false_eq_true, Nat.reduceBEq, Bool.false_eq_true, Nat.reduceMul, qg_0, qg_1, qg_2, qg_3, qg_4, qg_5, qg_6, ex1, ex3, ex4, qfit_i, qfit_l, qfit_r, qfit_n, qfit_b0, qfit_b1, qcat_i, qcat_r, qcat_n, qcat_l, qroom_0, qroom_c, List.map_cons, List.map_nil, List.sum_cons, List.sum_nil, Nat.reduceAdd, Nat.reduceLT, Nat.reduceLeDiff, Nat.reduceEqDiff, Nat.reduceSub, decide_true, true_and, and_true, and_self, if_true, if_false, Option.toList_some, Option.toList_none, List.cons_append, List.nil_append, qput_mk, qiast_mk, qup_at, exF, qnF0, qnF1, qnF2, qnF3, qnF4, qnF5, qnF6, qnF7, qnF8, qnF9, qnF10, qnF11]
  exact hend
set_option maxRecDepth 100000 in
set_option maxHeartbeats 8000000 in
theorem law_12 {f : Nat → qC} {xs : Nat → Int32} (h0 : f 0 = .inl (0, 7, .inl xs)) : ∃ h2, qEv 1000 3 qk_318 664 [some (.ref 0), some (.ref 16), some (.ref 55), some (.int 0)] [] (hF f, 97, 78870) (some (.int 1), h2) ∧ h2.2 = (97, 78870) := by
  have hp : ∃ v, prI 145 237 [.int (xs 1), .int (xs 2)] (991 + 9) 78870 f v := pa_faces
  obtain ⟨v, h1, e1, h2, e2, e3⟩ := hp
  have e1 : qMC 1000 145 [.ref 16, .int (xs 1), .int (xs 2)] (hF f, 97, 78870) (some (.int v), h1) := e1
  have e2 : qMC 1000 237 [.ref 55, .int (xs 1), .int (xs 2)] h1 (some (.int v), h2) := e2
  have k1 := e1.keep
  have k2 := e2.keep
  have g0 : hF f 0 = .inl (0, 7, .inl xs) := (hF_lo (by omega)).trans h0
  have g1 : h1.1 0 = .inl (0, 7, .inl xs) := (k1.2.2.2 (show 16 ≤ 97 by decide) 0 (by omega)).trans g0
  have g2 : h2.1 0 = .inl (0, 7, .inl xs) := (k2.2.2.2 (Nat.le_trans (show 16 ≤ 97 by decide) k1.1) 0 (by omega)).trans g1
  have hm1 : (55 < h1.2.1) = True := eq_true (Nat.lt_of_lt_of_le (show 55 < 97 by decide) k1.1)
  have hm2 : (∃ F, h1.1 55 = .inr (11, F)) = True := eq_true (k1.obj (show 55 < 97 by decide) (hF_55 (f := f)))
  have hend := law_last g2
  refine ⟨h2, ?_, e3⟩
  obtain ⟨h1f, h1n, h1s⟩ := h1
  simp only [e318_664, e318_665, e318_666, e318_667, e318_668, e318_669, e318_670, e318_671, e318_672, e318_673, e318_674, e318_675, e318_678, e318_679, e318_680, e318_681, e318_682, e318_683, e318_684, e318_685, e318_686, e318_687, e318_688, e318_689, e318_692, e318_695, e318_696, hF_16, hF_55, ald_s g0 (i := 1) (j := 1) (by decide) (by decide), ald_s g0 (i := 2) (j := 2) (by decide) (by decide), ald_s g0 (i := 3) (j := 3) (by decide) (by decide), ald_s g0 (i := 4) (j := 4) (by decide) (by decide), ald_s g0 (i := 5) (j := 5) (by decide) (by decide), ald_s g0 (i := 6) (j := 6) (by decide) (by decide), ald_s g1 (i := 1) (j := 1) (by decide) (by decide), ald_s g1 (i := 2) (j := 2) (by decide) (by decide), ald_s g1 (i := 3) (j := 3) (by decide) (by decide), ald_s g1 (i := 4) (j := 4) (by decide) (by decide), ald_s g1 (i := 5) (j := 5) (by decide) (by decide), ald_s g1 (i := 6) (j := 6) (by decide) (by decide), show (0 : Int32) + 1 = 1 from rfl, show (0 : Int32) + 2 = 2 from rfl, show (0 : Int32) + 3 = 3 from rfl, show (0 : Int32) + 4 = 4 from rfl, show (0 : Int32) + 5 = 5 from rfl, show (0 : Int32) + 6 = 6 from rfl, qMC_det e1, qMC_det e2, hm1, hm2, lg_self, eq_self, ↓reduceIte, qg_7, qg_8, qg_9, qg_10, qg_11, not_true_eq_false, not_false_eq_true, Nat.reduceBEq, Bool.false_eq_true, Nat.reduceMul, qg_0, qg_1, qg_2, qg_3, qg_4, qg_5, qg_6, ex1, ex3, ex4, qfit_i, qfit_l, qfit_r, qfit_n, qfit_b0, qfit_b1, qcat_i, qcat_r, qcat_n, qcat_l, qroom_0, qroom_c, List.map_cons, List.map_nil, List.sum_cons, List.sum_nil, Nat.reduceAdd, Nat.reduceLT, Nat.reduceLeDiff, Nat.reduceEqDiff, Nat.reduceSub, decide_true, true_and, and_true, and_self, if_true, if_false, Option.toList_some, Option.toList_none, List.cons_append, List.nil_append, qput_mk, qiast_mk, qup_at, exF, qnF0, qnF1, qnF2, qnF3, qnF4, qnF5, qnF6, qnF7, qnF8, qnF9, qnF10, qnF11]
  exact hend
set_option maxRecDepth 100000 in
set_option maxHeartbeats 8000000 in
theorem law_13 {f : Nat → qC} {xs : Nat → Int32} (h0 : f 0 = .inl (0, 7, .inl xs)) : ∃ h2, qEv 1000 3 qk_318 697 [some (.ref 0), some (.ref 16), some (.ref 55), some (.int 0)] [] (hF f, 97, 78870) (some (.int 1), h2) ∧ h2.2 = (97, 78870) := by
  have hp : ∃ v, prI 146 238 [.int (xs 1), .int (xs 2), .int (xs 3)] (991 + 9) 78870 f v := pa_face
  obtain ⟨v, h1, e1, h2, e2, e3⟩ := hp
  have e1 : qMC 1000 146 [.ref 16, .int (xs 1), .int (xs 2), .int (xs 3)] (hF f, 97, 78870) (some (.int v), h1) := e1
  have e2 : qMC 1000 238 [.ref 55, .int (xs 1), .int (xs 2), .int (xs 3)] h1 (some (.int v), h2) := e2
  have k1 := e1.keep
  have k2 := e2.keep
  have g0 : hF f 0 = .inl (0, 7, .inl xs) := (hF_lo (by omega)).trans h0
  have g1 : h1.1 0 = .inl (0, 7, .inl xs) := (k1.2.2.2 (show 16 ≤ 97 by decide) 0 (by omega)).trans g0
  have g2 : h2.1 0 = .inl (0, 7, .inl xs) := (k2.2.2.2 (Nat.le_trans (show 16 ≤ 97 by decide) k1.1) 0 (by omega)).trans g1
  have hm1 : (55 < h1.2.1) = True := eq_true (Nat.lt_of_lt_of_le (show 55 < 97 by decide) k1.1)
  have hm2 : (∃ F, h1.1 55 = .inr (11, F)) = True := eq_true (k1.obj (show 55 < 97 by decide) (hF_55 (f := f)))
  have hend := law_last g2
  refine ⟨h2, ?_, e3⟩
  obtain ⟨h1f, h1n, h1s⟩ := h1
  simp only [e318_697, e318_698, e318_699, e318_700, e318_701, e318_702, e318_703, e318_704, e318_705, e318_706, e318_707, e318_708, e318_709, e318_710, e318_711, e318_712, e318_713, e318_716, e318_717, e318_718, e318_719, e318_720, e318_721, e318_722, e318_723, e318_724, e318_725, e318_726, e318_727, e318_728, e318_729, e318_730, e318_731, e318_732, e318_735, e318_738, e318_739, hF_16, hF_55, ald_s g0 (i := 1) (j := 1) (by decide) (by decide), ald_s g0 (i := 2) (j := 2) (by decide) (by decide), ald_s g0 (i := 3) (j := 3) (by decide) (by decide), ald_s g0 (i := 4) (j := 4) (by decide) (by decide), ald_s g0 (i := 5) (j := 5) (by decide) (by decide), ald_s g0 (i := 6) (j := 6) (by decide) (by decide), ald_s g1 (i := 1) (j := 1) (by decide) (by decide), ald_s g1 (i := 2) (j := 2) (by decide) (by decide), ald_s g1 (i := 3) (j := 3) (by decide) (by decide), ald_s g1 (i := 4) (j := 4) (by decide) (by decide), ald_s g1 (i := 5) (j := 5) (by decide) (by decide), ald_s g1 (i := 6) (j := 6) (by decide) (by decide), show (0 : Int32) + 1 = 1 from rfl, show (0 : Int32) + 2 = 2 from rfl, show (0 : Int32) + 3 = 3 from rfl, show (0 : Int32) + 4 = 4 from rfl, show (0 : Int32) + 5 = 5 from rfl, show (0 : Int32) + 6 = 6 from rfl, qMC_det e1, qMC_det e2, hm1, hm2, lg_self, eq_self, ↓reduceIte, qg_7, qg_8, qg_9, qg_10, qg_11, not_true_eq_false, not_false_eq_true, Nat.reduceBEq, Bool.false_eq_true, Nat.reduceMul, qg_0, qg_1, qg_2, qg_3, qg_4, qg_5, qg_6, ex1, ex3, ex4, qfit_i, qfit_l, qfit_r, qfit_n, qfit_b0, qfit_b1, qcat_i, qcat_r, qcat_n, qcat_l, qroom_0, qroom_c, List.map_cons, List.map_nil, List.sum_cons, List.sum_nil, Nat.reduceAdd, Nat.reduceLT, Nat.reduceLeDiff, Nat.reduceEqDiff, Nat.reduceSub, decide_true, true_and, and_true, and_self, if_true, if_false, Option.toList_some, Option.toList_none, List.cons_append, List.nil_append, qput_mk, qiast_mk, qup_at, exF, qnF0, qnF1, qnF2, qnF3, qnF4, qnF5, qnF6, qnF7, qnF8, qnF9, qnF10, qnF11]
  exact hend
set_option maxRecDepth 100000 in
set_option maxHeartbeats 8000000 in
theorem law_14 {f : Nat → qC} {xs : Nat → Int32} (h0 : f 0 = .inl (0, 7, .inl xs)) : ∃ h2, qEv 1000 3 qk_318 740 [some (.ref 0), some (.ref 16), some (.ref 55), some (.int 0)] [] (hF f, 97, 78870) (some (.int 1), h2) ∧ h2.2 = (97, 78870) := by
  have hp : ∃ v, prI 147 239 [.int (xs 1), .int (xs 2), .int (xs 3), .int (xs 4)] (991 + 9) 78870 f v := pa_lies
  obtain ⟨v, h1, e1, h2, e2, e3⟩ := hp
  have e1 : qMC 1000 147 [.ref 16, .int (xs 1), .int (xs 2), .int (xs 3), .int (xs 4)] (hF f, 97, 78870) (some (.int v), h1) := e1
  have e2 : qMC 1000 239 [.ref 55, .int (xs 1), .int (xs 2), .int (xs 3), .int (xs 4)] h1 (some (.int v), h2) := e2
  have k1 := e1.keep
  have k2 := e2.keep
  have g0 : hF f 0 = .inl (0, 7, .inl xs) := (hF_lo (by omega)).trans h0
  have g1 : h1.1 0 = .inl (0, 7, .inl xs) := (k1.2.2.2 (show 16 ≤ 97 by decide) 0 (by omega)).trans g0
  have g2 : h2.1 0 = .inl (0, 7, .inl xs) := (k2.2.2.2 (Nat.le_trans (show 16 ≤ 97 by decide) k1.1) 0 (by omega)).trans g1
  have hm1 : (55 < h1.2.1) = True := eq_true (Nat.lt_of_lt_of_le (show 55 < 97 by decide) k1.1)
  have hm2 : (∃ F, h1.1 55 = .inr (11, F)) = True := eq_true (k1.obj (show 55 < 97 by decide) (hF_55 (f := f)))
  have hend := law_last g2
  refine ⟨h2, ?_, e3⟩
  obtain ⟨h1f, h1n, h1s⟩ := h1
  simp only [e318_740, e318_741, e318_742, e318_743, e318_744, e318_745, e318_746, e318_747, e318_748, e318_749, e318_750, e318_751, e318_752, e318_753, e318_754, e318_755, e318_756, e318_757, e318_758, e318_759, e318_760, e318_761, e318_764, e318_765, e318_766, e318_767, e318_768, e318_769, e318_770, e318_771, e318_772, e318_773, e318_774, e318_775, e318_776, e318_777, e318_778, e318_779, e318_780, e318_781, e318_782, e318_783, e318_784, e318_785, e318_788, e318_791, e318_792, hF_16, hF_55, ald_s g0 (i := 1) (j := 1) (by decide) (by decide), ald_s g0 (i := 2) (j := 2) (by decide) (by decide), ald_s g0 (i := 3) (j := 3) (by decide) (by decide), ald_s g0 (i := 4) (j := 4) (by decide) (by decide), ald_s g0 (i := 5) (j := 5) (by decide) (by decide), ald_s g0 (i := 6) (j := 6) (by decide) (by decide), ald_s g1 (i := 1) (j := 1) (by decide) (by decide), ald_s g1 (i := 2) (j := 2) (by decide) (by decide), ald_s g1 (i := 3) (j := 3) (by decide) (by decide), ald_s g1 (i := 4) (j := 4) (by decide) (by decide), ald_s g1 (i := 5) (j := 5) (by decide) (by decide), ald_s g1 (i := 6) (j := 6) (by decide) (by decide), show (0 : Int32) + 1 = 1 from rfl, show (0 : Int32) + 2 = 2 from rfl, show (0 : Int32) + 3 = 3 from rfl, show (0 : Int32) + 4 = 4 from rfl, show (0 : Int32) + 5 = 5 from rfl, show (0 : Int32) + 6 = 6 from rfl, qMC_det e1, qMC_det e2, hm1, hm2, lg_self, eq_self, ↓reduceIte, qg_7, qg_8, qg_9, qg_10, qg_11, not_true_eq_false, not_false_eq_true, Nat.reduceBEq, Bool.false_eq_true, Nat.reduceMul, qg_0, qg_1, qg_2, qg_3, qg_4, qg_5, qg_6, ex1, ex3, ex4, qfit_i, qfit_l, qfit_r, qfit_n, qfit_b0, qfit_b1, qcat_i, qcat_r, qcat_n, qcat_l, qroom_0, qroom_c, List.map_cons, List.map_nil, List.sum_cons, List.sum_nil, Nat.reduceAdd, Nat.reduceLT, Nat.reduceLeDiff, Nat.reduceEqDiff, Nat.reduceSub, decide_true, true_and, and_true, and_self, if_true, if_false, Option.toList_some, Option.toList_none, List.cons_append, List.nil_append, qput_mk, qiast_mk, qup_at, exF, qnF0, qnF1, qnF2, qnF3, qnF4, qnF5, qnF6, qnF7, qnF8, qnF9, qnF10, qnF11]
  exact hend
set_option maxRecDepth 100000 in
set_option maxHeartbeats 8000000 in
theorem law_15 {f : Nat → qC} {xs : Nat → Int32} (h0 : f 0 = .inl (0, 7, .inl xs)) : ∃ h2, qEv 1000 3 qk_318 793 [some (.ref 0), some (.ref 16), some (.ref 55), some (.int 0)] [] (hF f, 97, 78870) (some (.int 1), h2) ∧ h2.2 = (97, 78870) := by
  have hp : ∃ v, prI 148 241 [.int (xs 1), .int (xs 2)] (991 + 9) 78870 f v := pa_h
  obtain ⟨v, h1, e1, h2, e2, e3⟩ := hp
  have e1 : qMC 1000 148 [.ref 16, .int (xs 1), .int (xs 2)] (hF f, 97, 78870) (some (.int v), h1) := e1
  have e2 : qMC 1000 241 [.ref 55, .int (xs 1), .int (xs 2)] h1 (some (.int v), h2) := e2
  have k1 := e1.keep
  have k2 := e2.keep
  have g0 : hF f 0 = .inl (0, 7, .inl xs) := (hF_lo (by omega)).trans h0
  have g1 : h1.1 0 = .inl (0, 7, .inl xs) := (k1.2.2.2 (show 16 ≤ 97 by decide) 0 (by omega)).trans g0
  have g2 : h2.1 0 = .inl (0, 7, .inl xs) := (k2.2.2.2 (Nat.le_trans (show 16 ≤ 97 by decide) k1.1) 0 (by omega)).trans g1
  have hm1 : (55 < h1.2.1) = True := eq_true (Nat.lt_of_lt_of_le (show 55 < 97 by decide) k1.1)
  have hm2 : (∃ F, h1.1 55 = .inr (11, F)) = True := eq_true (k1.obj (show 55 < 97 by decide) (hF_55 (f := f)))
  have hend := law_last g2
  refine ⟨h2, ?_, e3⟩
  obtain ⟨h1f, h1n, h1s⟩ := h1
  simp only [e318_793, e318_794, e318_795, e318_796, e318_797, e318_798, e318_799, e318_800, e318_801, e318_802, e318_803, e318_804, e318_807, e318_808, e318_809, e318_810, e318_811, e318_812, e318_813, e318_814, e318_815, e318_816, e318_817, e318_818, e318_821, e318_824, e318_825, hF_16, hF_55, ald_s g0 (i := 1) (j := 1) (by decide) (by decide), ald_s g0 (i := 2) (j := 2) (by decide) (by decide), ald_s g0 (i := 3) (j := 3) (by decide) (by decide), ald_s g0 (i := 4) (j := 4) (by decide) (by decide), ald_s g0 (i := 5) (j := 5) (by decide) (by decide), ald_s g0 (i := 6) (j := 6) (by decide) (by decide), ald_s g1 (i := 1) (j := 1) (by decide) (by decide), ald_s g1 (i := 2) (j := 2) (by decide) (by decide), ald_s g1 (i := 3) (j := 3) (by decide) (by decide), ald_s g1 (i := 4) (j := 4) (by decide) (by decide), ald_s g1 (i := 5) (j := 5) (by decide) (by decide), ald_s g1 (i := 6) (j := 6) (by decide) (by decide), show (0 : Int32) + 1 = 1 from rfl, show (0 : Int32) + 2 = 2 from rfl, show (0 : Int32) + 3 = 3 from rfl, show (0 : Int32) + 4 = 4 from rfl, show (0 : Int32) + 5 = 5 from rfl, show (0 : Int32) + 6 = 6 from rfl, qMC_det e1, qMC_det e2, hm1, hm2, lg_self, eq_self, ↓reduceIte, qg_7, qg_8, qg_9, qg_10, qg_11, not_true_eq_false, not_false_eq_true, Nat.reduceBEq, Bool.false_eq_true, Nat.reduceMul, qg_0, qg_1, qg_2, qg_3, qg_4, qg_5, qg_6, ex1, ex3, ex4, qfit_i, qfit_l, qfit_r, qfit_n, qfit_b0, qfit_b1, qcat_i, qcat_r, qcat_n, qcat_l, qroom_0, qroom_c, List.map_cons, List.map_nil, List.sum_cons, List.sum_nil, Nat.reduceAdd, Nat.reduceLT, Nat.reduceLeDiff, Nat.reduceEqDiff, Nat.reduceSub, decide_true, true_and, and_true, and_self, if_true, if_false, Option.toList_some, Option.toList_none, List.cons_append, List.nil_append, qput_mk, qiast_mk, qup_at, exF, qnF0, qnF1, qnF2, qnF3, qnF4, qnF5, qnF6, qnF7, qnF8, qnF9, qnF10, qnF11]
  exact hend
set_option maxRecDepth 100000 in
set_option maxHeartbeats 8000000 in
theorem law_16 {f : Nat → qC} {xs : Nat → Int32} (h0 : f 0 = .inl (0, 7, .inl xs)) : ∃ h2, qEv 1000 3 qk_318 826 [some (.ref 0), some (.ref 16), some (.ref 55), some (.int 0)] [] (hF f, 97, 78870) (some (.int 1), h2) ∧ h2.2 = (97, 78870) := by
  have hp : ∃ v, prI 149 242 [.int (xs 1)] (991 + 9) 78870 f v := pa_sum
  obtain ⟨v, h1, e1, h2, e2, e3⟩ := hp
  have e1 : qMC 1000 149 [.ref 16, .int (xs 1)] (hF f, 97, 78870) (some (.int v), h1) := e1
  have e2 : qMC 1000 242 [.ref 55, .int (xs 1)] h1 (some (.int v), h2) := e2
  have k1 := e1.keep
  have k2 := e2.keep
  have g0 : hF f 0 = .inl (0, 7, .inl xs) := (hF_lo (by omega)).trans h0
  have g1 : h1.1 0 = .inl (0, 7, .inl xs) := (k1.2.2.2 (show 16 ≤ 97 by decide) 0 (by omega)).trans g0
  have g2 : h2.1 0 = .inl (0, 7, .inl xs) := (k2.2.2.2 (Nat.le_trans (show 16 ≤ 97 by decide) k1.1) 0 (by omega)).trans g1
  have hm1 : (55 < h1.2.1) = True := eq_true (Nat.lt_of_lt_of_le (show 55 < 97 by decide) k1.1)
  have hm2 : (∃ F, h1.1 55 = .inr (11, F)) = True := eq_true (k1.obj (show 55 < 97 by decide) (hF_55 (f := f)))
  have hend := law_last g2
  refine ⟨h2, ?_, e3⟩
  obtain ⟨h1f, h1n, h1s⟩ := h1
  simp only [e318_826, e318_827, e318_828, e318_829, e318_830, e318_831, e318_832, e318_835, e318_836, e318_837, e318_838, e318_839, e318_840, e318_841, e318_844, e318_847, e318_848, hF_16, hF_55, ald_s g0 (i := 1) (j := 1) (by decide) (by decide), ald_s g0 (i := 2) (j := 2) (by decide) (by decide), ald_s g0 (i := 3) (j := 3) (by decide) (by decide), ald_s g0 (i := 4) (j := 4) (by decide) (by decide), ald_s g0 (i := 5) (j := 5) (by decide) (by decide), ald_s g0 (i := 6) (j := 6) (by decide) (by decide), ald_s g1 (i := 1) (j := 1) (by decide) (by decide), ald_s g1 (i := 2) (j := 2) (by decide) (by decide), ald_s g1 (i := 3) (j := 3) (by decide) (by decide), ald_s g1 (i := 4) (j := 4) (by decide) (by decide), ald_s g1 (i := 5) (j := 5) (by decide) (by decide), ald_s g1 (i := 6) (j := 6) (by decide) (by decide), show (0 : Int32) + 1 = 1 from rfl, show (0 : Int32) + 2 = 2 from rfl, show (0 : Int32) + 3 = 3 from rfl, show (0 : Int32) + 4 = 4 from rfl, show (0 : Int32) + 5 = 5 from rfl, show (0 : Int32) + 6 = 6 from rfl, qMC_det e1, qMC_det e2, hm1, hm2, lg_self, eq_self, ↓reduceIte, qg_7, qg_8, qg_9, qg_10, qg_11, not_true_eq_false, not_false_eq_true, Nat.reduceBEq, Bool.false_eq_true, Nat.reduceMul, qg_0, qg_1, qg_2, qg_3, qg_4, qg_5, qg_6, ex1, ex3, ex4, qfit_i, qfit_l, qfit_r, qfit_n, qfit_b0, qfit_b1, qcat_i, qcat_r, qcat_n, qcat_l, qroom_0, qroom_c, List.map_cons, List.map_nil, List.sum_cons, List.sum_nil, Nat.reduceAdd, Nat.reduceLT, Nat.reduceLeDiff, Nat.reduceEqDiff, Nat.reduceSub, decide_true, true_and, and_true, and_self, if_true, if_false, Option.toList_some, Option.toList_none, List.cons_append, List.nil_append, qput_mk, qiast_mk, qup_at, exF, qnF0, qnF1, qnF2, qnF3, qnF4, qnF5, qnF6, qnF7, qnF8, qnF9, qnF10, qnF11]
  exact hend
set_option maxRecDepth 100000 in
set_option maxHeartbeats 8000000 in
theorem law_17 {f : Nat → qC} {xs : Nat → Int32} (h0 : f 0 = .inl (0, 7, .inl xs)) : ∃ h2, qEv 1000 3 qk_318 849 [some (.ref 0), some (.ref 16), some (.ref 55), some (.int 0)] [] (hF f, 97, 78870) (some (.int 1), h2) ∧ h2.2 = (97, 78870) := by
  have hp : ∃ v, prI 150 250 [.int (xs 1), .int (xs 2)] (991 + 9) 78870 f v := pa_same
  obtain ⟨v, h1, e1, h2, e2, e3⟩ := hp
  have e1 : qMC 1000 150 [.ref 16, .int (xs 1), .int (xs 2)] (hF f, 97, 78870) (some (.int v), h1) := e1
  have e2 : qMC 1000 250 [.ref 55, .int (xs 1), .int (xs 2)] h1 (some (.int v), h2) := e2
  have k1 := e1.keep
  have k2 := e2.keep
  have g0 : hF f 0 = .inl (0, 7, .inl xs) := (hF_lo (by omega)).trans h0
  have g1 : h1.1 0 = .inl (0, 7, .inl xs) := (k1.2.2.2 (show 16 ≤ 97 by decide) 0 (by omega)).trans g0
  have g2 : h2.1 0 = .inl (0, 7, .inl xs) := (k2.2.2.2 (Nat.le_trans (show 16 ≤ 97 by decide) k1.1) 0 (by omega)).trans g1
  have hm1 : (55 < h1.2.1) = True := eq_true (Nat.lt_of_lt_of_le (show 55 < 97 by decide) k1.1)
  have hm2 : (∃ F, h1.1 55 = .inr (11, F)) = True := eq_true (k1.obj (show 55 < 97 by decide) (hF_55 (f := f)))
  have hend := law_last g2
  refine ⟨h2, ?_, e3⟩
  obtain ⟨h1f, h1n, h1s⟩ := h1
  simp only [e318_849, e318_850, e318_851, e318_852, e318_853, e318_854, e318_855, e318_856, e318_857, e318_858, e318_859, e318_860, e318_863, e318_864, e318_865, e318_866, e318_867, e318_868, e318_869, e318_870, e318_871, e318_872, e318_873, e318_874, e318_877, e318_880, e318_881, hF_16, hF_55, ald_s g0 (i := 1) (j := 1) (by decide) (by decide), ald_s g0 (i := 2) (j := 2) (by decide) (by decide), ald_s g0 (i := 3) (j := 3) (by decide) (by decide), ald_s g0 (i := 4) (j := 4) (by decide) (by decide), ald_s g0 (i := 5) (j := 5) (by decide) (by decide), ald_s g0 (i := 6) (j := 6) (by decide) (by decide), ald_s g1 (i := 1) (j := 1) (by decide) (by decide), ald_s g1 (i := 2) (j := 2) (by decide) (by decide), ald_s g1 (i := 3) (j := 3) (by decide) (by decide), ald_s g1 (i := 4) (j := 4) (by decide) (by decide), ald_s g1 (i := 5) (j := 5) (by decide) (by decide), ald_s g1 (i := 6) (j := 6) (by decide) (by decide), show (0 : Int32) + 1 = 1 from rfl, show (0 : Int32) + 2 = 2 from rfl, show (0 : Int32) + 3 = 3 from rfl, show (0 : Int32) + 4 = 4 from rfl, show (0 : Int32) + 5 = 5 from rfl, show (0 : Int32) + 6 = 6 from rfl, qMC_det e1, qMC_det e2, hm1, hm2, lg_self, eq_self, ↓reduceIte, qg_7, qg_8, qg_9, qg_10, qg_11, not_true_eq_false, not_false_eq_true, Nat.reduceBEq, Bool.false_eq_true, Nat.reduceMul, qg_0, qg_1, qg_2, qg_3, qg_4, qg_5, qg_6, ex1, ex3, ex4, qfit_i, qfit_l, qfit_r, qfit_n, qfit_b0, qfit_b1, qcat_i, qcat_r, qcat_n, qcat_l, qroom_0, qroom_c, List.map_cons, List.map_nil, List.sum_cons, List.sum_nil, Nat.reduceAdd, Nat.reduceLT, Nat.reduceLeDiff, Nat.reduceEqDiff, Nat.reduceSub, decide_true, true_and, and_true, and_self, if_true, if_false, Option.toList_some, Option.toList_none, List.cons_append, List.nil_append, qput_mk, qiast_mk, qup_at, exF, qnF0, qnF1, qnF2, qnF3, qnF4, qnF5, qnF6, qnF7, qnF8, qnF9, qnF10, qnF11]
  exact hend
set_option maxRecDepth 100000 in
set_option maxHeartbeats 8000000 in
theorem law_18 {f : Nat → qC} {xs : Nat → Int32} (h0 : f 0 = .inl (0, 7, .inl xs)) : ∃ h2, qEv 1000 3 qk_318 882 [some (.ref 0), some (.ref 16), some (.ref 55), some (.int 0)] [] (hF f, 97, 78870) (some (.int 1), h2) ∧ h2.2 = (97, 78870) := by
  have hp : ∃ v, prI 151 251 [.int (xs 1), .int (xs 2)] (991 + 9) 78870 f v := pa_inside
  obtain ⟨v, h1, e1, h2, e2, e3⟩ := hp
  have e1 : qMC 1000 151 [.ref 16, .int (xs 1), .int (xs 2)] (hF f, 97, 78870) (some (.int v), h1) := e1
  have e2 : qMC 1000 251 [.ref 55, .int (xs 1), .int (xs 2)] h1 (some (.int v), h2) := e2
  have k1 := e1.keep
  have k2 := e2.keep
  have g0 : hF f 0 = .inl (0, 7, .inl xs) := (hF_lo (by omega)).trans h0
  have g1 : h1.1 0 = .inl (0, 7, .inl xs) := (k1.2.2.2 (show 16 ≤ 97 by decide) 0 (by omega)).trans g0
  have g2 : h2.1 0 = .inl (0, 7, .inl xs) := (k2.2.2.2 (Nat.le_trans (show 16 ≤ 97 by decide) k1.1) 0 (by omega)).trans g1
  have hm1 : (55 < h1.2.1) = True := eq_true (Nat.lt_of_lt_of_le (show 55 < 97 by decide) k1.1)
  have hm2 : (∃ F, h1.1 55 = .inr (11, F)) = True := eq_true (k1.obj (show 55 < 97 by decide) (hF_55 (f := f)))
  have hend := law_last g2
  refine ⟨h2, ?_, e3⟩
  obtain ⟨h1f, h1n, h1s⟩ := h1
  simp only [e318_882, e318_883, e318_884, e318_885, e318_886, e318_887, e318_888, e318_889, e318_890, e318_891, e318_892, e318_893, e318_896, e318_897, e318_898, e318_899, e318_900, e318_901, e318_902, e318_903, e318_904, e318_905, e318_906, e318_907, e318_910, e318_913, e318_914, hF_16, hF_55, ald_s g0 (i := 1) (j := 1) (by decide) (by decide), ald_s g0 (i := 2) (j := 2) (by decide) (by decide), ald_s g0 (i := 3) (j := 3) (by decide) (by decide), ald_s g0 (i := 4) (j := 4) (by decide) (by decide), ald_s g0 (i := 5) (j := 5) (by decide) (by decide), ald_s g0 (i := 6) (j := 6) (by decide) (by decide), ald_s g1 (i := 1) (j := 1) (by decide) (by decide), ald_s g1 (i := 2) (j := 2) (by decide) (by decide), ald_s g1 (i := 3) (j := 3) (by decide) (by decide), ald_s g1 (i := 4) (j := 4) (by decide) (by decide), ald_s g1 (i := 5) (j := 5) (by decide) (by decide), ald_s g1 (i := 6) (j := 6) (by decide) (by decide), show (0 : Int32) + 1 = 1 from rfl, show (0 : Int32) + 2 = 2 from rfl, show (0 : Int32) + 3 = 3 from rfl, show (0 : Int32) + 4 = 4 from rfl, show (0 : Int32) + 5 = 5 from rfl, show (0 : Int32) + 6 = 6 from rfl, qMC_det e1, qMC_det e2, hm1, hm2, lg_self, eq_self, ↓reduceIte, qg_7, qg_8, qg_9, qg_10, qg_11, not_true_eq_false, not_false_eq_true, Nat.reduceBEq, Bool.false_eq_true, Nat.reduceMul, qg_0, qg_1, qg_2, qg_3, qg_4, qg_5, qg_6, ex1, ex3, ex4, qfit_i, qfit_l, qfit_r, qfit_n, qfit_b0, qfit_b1, qcat_i, qcat_r, qcat_n, qcat_l, qroom_0, qroom_c, List.map_cons, List.map_nil, List.sum_cons, List.sum_nil, Nat.reduceAdd, Nat.reduceLT, Nat.reduceLeDiff, Nat.reduceEqDiff, Nat.reduceSub, decide_true, true_and, and_true, and_self, if_true, if_false, Option.toList_some, Option.toList_none, List.cons_append, List.nil_append, qput_mk, qiast_mk, qup_at, exF, qnF0, qnF1, qnF2, qnF3, qnF4, qnF5, qnF6, qnF7, qnF8, qnF9, qnF10, qnF11]
  exact hend
set_option maxRecDepth 100000 in
set_option maxHeartbeats 8000000 in
theorem law_19 {f : Nat → qC} {xs : Nat → Int32} (h0 : f 0 = .inl (0, 7, .inl xs)) : ∃ h2, qEv 1000 3 qk_318 915 [some (.ref 0), some (.ref 16), some (.ref 55), some (.int 0)] [] (hF f, 97, 78870) (some (.int 1), h2) ∧ h2.2 = (97, 78870) := by
  have hp : ∃ v, prI 152 252 [.int (xs 1)] (991 + 9) 78870 f v := pa_pattern
  obtain ⟨v, h1, e1, h2, e2, e3⟩ := hp
  have e1 : qMC 1000 152 [.ref 16, .int (xs 1)] (hF f, 97, 78870) (some (.int v), h1) := e1
  have e2 : qMC 1000 252 [.ref 55, .int (xs 1)] h1 (some (.int v), h2) := e2
  have k1 := e1.keep
  have k2 := e2.keep
  have g0 : hF f 0 = .inl (0, 7, .inl xs) := (hF_lo (by omega)).trans h0
  have g1 : h1.1 0 = .inl (0, 7, .inl xs) := (k1.2.2.2 (show 16 ≤ 97 by decide) 0 (by omega)).trans g0
  have g2 : h2.1 0 = .inl (0, 7, .inl xs) := (k2.2.2.2 (Nat.le_trans (show 16 ≤ 97 by decide) k1.1) 0 (by omega)).trans g1
  have hm1 : (55 < h1.2.1) = True := eq_true (Nat.lt_of_lt_of_le (show 55 < 97 by decide) k1.1)
  have hm2 : (∃ F, h1.1 55 = .inr (11, F)) = True := eq_true (k1.obj (show 55 < 97 by decide) (hF_55 (f := f)))
  have hend := law_last g2
  refine ⟨h2, ?_, e3⟩
  obtain ⟨h1f, h1n, h1s⟩ := h1
  simp only [e318_915, e318_916, e318_917, e318_918, e318_919, e318_920, e318_921, e318_924, e318_925, e318_926, e318_927, e318_928, e318_929, e318_930, e318_933, e318_936, e318_937, hF_16, hF_55, ald_s g0 (i := 1) (j := 1) (by decide) (by decide), ald_s g0 (i := 2) (j := 2) (by decide) (by decide), ald_s g0 (i := 3) (j := 3) (by decide) (by decide), ald_s g0 (i := 4) (j := 4) (by decide) (by decide), ald_s g0 (i := 5) (j := 5) (by decide) (by decide), ald_s g0 (i := 6) (j := 6) (by decide) (by decide), ald_s g1 (i := 1) (j := 1) (by decide) (by decide), ald_s g1 (i := 2) (j := 2) (by decide) (by decide), ald_s g1 (i := 3) (j := 3) (by decide) (by decide), ald_s g1 (i := 4) (j := 4) (by decide) (by decide), ald_s g1 (i := 5) (j := 5) (by decide) (by decide), ald_s g1 (i := 6) (j := 6) (by decide) (by decide), show (0 : Int32) + 1 = 1 from rfl, show (0 : Int32) + 2 = 2 from rfl, show (0 : Int32) + 3 = 3 from rfl, show (0 : Int32) + 4 = 4 from rfl, show (0 : Int32) + 5 = 5 from rfl, show (0 : Int32) + 6 = 6 from rfl, qMC_det e1, qMC_det e2, hm1, hm2, lg_self, eq_self, ↓reduceIte, qg_7, qg_8, qg_9, qg_10, qg_11, not_true_eq_false, not_false_eq_true, Nat.reduceBEq, Bool.false_eq_true, Nat.reduceMul, qg_0, qg_1, qg_2, qg_3, qg_4, qg_5, qg_6, ex1, ex3, ex4, qfit_i, qfit_l, qfit_r, qfit_n, qfit_b0, qfit_b1, qcat_i, qcat_r, qcat_n, qcat_l, qroom_0, qroom_c, List.map_cons, List.map_nil, List.sum_cons, List.sum_nil, Nat.reduceAdd, Nat.reduceLT, Nat.reduceLeDiff, Nat.reduceEqDiff, Nat.reduceSub, decide_true, true_and, and_true, and_self, if_true, if_false, Option.toList_some, Option.toList_none, List.cons_append, List.nil_append, qput_mk, qiast_mk, qup_at, exF, qnF0, qnF1, qnF2, qnF3, qnF4, qnF5, qnF6, qnF7, qnF8, qnF9, qnF10, qnF11]
  exact hend
set_option maxRecDepth 100000 in
set_option maxHeartbeats 8000000 in
theorem law_20 {f : Nat → qC} {xs : Nat → Int32} (h0 : f 0 = .inl (0, 7, .inl xs)) : ∃ h2, qEv 1000 3 qk_318 938 [some (.ref 0), some (.ref 16), some (.ref 55), some (.int 0)] [] (hF f, 97, 78870) (some (.int 1), h2) ∧ h2.2 = (97, 78870) := by
  have hp : ∃ v, prI 153 253 [.int (xs 1)] (991 + 9) 78870 f v := pa_set
  obtain ⟨v, h1, e1, h2, e2, e3⟩ := hp
  have e1 : qMC 1000 153 [.ref 16, .int (xs 1)] (hF f, 97, 78870) (some (.int v), h1) := e1
  have e2 : qMC 1000 253 [.ref 55, .int (xs 1)] h1 (some (.int v), h2) := e2
  have k1 := e1.keep
  have k2 := e2.keep
  have g0 : hF f 0 = .inl (0, 7, .inl xs) := (hF_lo (by omega)).trans h0
  have g1 : h1.1 0 = .inl (0, 7, .inl xs) := (k1.2.2.2 (show 16 ≤ 97 by decide) 0 (by omega)).trans g0
  have g2 : h2.1 0 = .inl (0, 7, .inl xs) := (k2.2.2.2 (Nat.le_trans (show 16 ≤ 97 by decide) k1.1) 0 (by omega)).trans g1
  have hm1 : (55 < h1.2.1) = True := eq_true (Nat.lt_of_lt_of_le (show 55 < 97 by decide) k1.1)
  have hm2 : (∃ F, h1.1 55 = .inr (11, F)) = True := eq_true (k1.obj (show 55 < 97 by decide) (hF_55 (f := f)))
  have hend := law_last g2
  refine ⟨h2, ?_, e3⟩
  obtain ⟨h1f, h1n, h1s⟩ := h1
  simp only [e318_938, e318_939, e318_940, e318_941, e318_942, e318_943, e318_944, e318_947, e318_948, e318_949, e318_950, e318_951, e318_952, e318_953, e318_956, e318_959, e318_960, hF_16, hF_55, ald_s g0 (i := 1) (j := 1) (by decide) (by decide), ald_s g0 (i := 2) (j := 2) (by decide) (by decide), ald_s g0 (i := 3) (j := 3) (by decide) (by decide), ald_s g0 (i := 4) (j := 4) (by decide) (by decide), ald_s g0 (i := 5) (j := 5) (by decide) (by decide), ald_s g0 (i := 6) (j := 6) (by decide) (by decide), ald_s g1 (i := 1) (j := 1) (by decide) (by decide), ald_s g1 (i := 2) (j := 2) (by decide) (by decide), ald_s g1 (i := 3) (j := 3) (by decide) (by decide), ald_s g1 (i := 4) (j := 4) (by decide) (by decide), ald_s g1 (i := 5) (j := 5) (by decide) (by decide), ald_s g1 (i := 6) (j := 6) (by decide) (by decide), show (0 : Int32) + 1 = 1 from rfl, show (0 : Int32) + 2 = 2 from rfl, show (0 : Int32) + 3 = 3 from rfl, show (0 : Int32) + 4 = 4 from rfl, show (0 : Int32) + 5 = 5 from rfl, show (0 : Int32) + 6 = 6 from rfl, qMC_det e1, qMC_det e2, hm1, hm2, lg_self, eq_self, ↓reduceIte, qg_7, qg_8, qg_9, qg_10, qg_11, not_true_eq_false, not_false_eq_true, Nat.reduceBEq, Bool.false_eq_true, Nat.reduceMul, qg_0, qg_1, qg_2, qg_3, qg_4, qg_5, qg_6, ex1, ex3, ex4, qfit_i, qfit_l, qfit_r, qfit_n, qfit_b0, qfit_b1, qcat_i, qcat_r, qcat_n, qcat_l, qroom_0, qroom_c, List.map_cons, List.map_nil, List.sum_cons, List.sum_nil, Nat.reduceAdd, Nat.reduceLT, Nat.reduceLeDiff, Nat.reduceEqDiff, Nat.reduceSub, decide_true, true_and, and_true, and_self, if_true, if_false, Option.toList_some, Option.toList_none, List.cons_append, List.nil_append, qput_mk, qiast_mk, qup_at, exF, qnF0, qnF1, qnF2, qnF3, qnF4, qnF5, qnF6, qnF7, qnF8, qnF9, qnF10, qnF11]
  exact hend
set_option maxRecDepth 100000 in
set_option maxHeartbeats 8000000 in
theorem law_21 {f : Nat → qC} {xs : Nat → Int32} (h0 : f 0 = .inl (0, 7, .inl xs)) : ∃ h2, qEv 1000 3 qk_318 961 [some (.ref 0), some (.ref 16), some (.ref 55), some (.int 0)] [] (hF f, 97, 78870) (some (.int 1), h2) ∧ h2.2 = (97, 78870) := by
  have hp : ∃ v, prI 154 259 [.int (xs 1)] (991 + 9) 78870 f v := pa_place
  obtain ⟨v, h1, e1, h2, e2, e3⟩ := hp
  have e1 : qMC 1000 154 [.ref 16, .int (xs 1)] (hF f, 97, 78870) (some (.int v), h1) := e1
  have e2 : qMC 1000 259 [.ref 55, .int (xs 1)] h1 (some (.int v), h2) := e2
  have k1 := e1.keep
  have k2 := e2.keep
  have g0 : hF f 0 = .inl (0, 7, .inl xs) := (hF_lo (by omega)).trans h0
  have g1 : h1.1 0 = .inl (0, 7, .inl xs) := (k1.2.2.2 (show 16 ≤ 97 by decide) 0 (by omega)).trans g0
  have g2 : h2.1 0 = .inl (0, 7, .inl xs) := (k2.2.2.2 (Nat.le_trans (show 16 ≤ 97 by decide) k1.1) 0 (by omega)).trans g1
  have hm1 : (55 < h1.2.1) = True := eq_true (Nat.lt_of_lt_of_le (show 55 < 97 by decide) k1.1)
  have hm2 : (∃ F, h1.1 55 = .inr (11, F)) = True := eq_true (k1.obj (show 55 < 97 by decide) (hF_55 (f := f)))
  have hend := law_last g2
  refine ⟨h2, ?_, e3⟩
  obtain ⟨h1f, h1n, h1s⟩ := h1
  simp only [e318_961, e318_962, e318_963, e318_964, e318_965, e318_966, e318_967, e318_970, e318_971, e318_972, e318_973, e318_974, e318_975, e318_976, e318_979, e318_982, e318_983, hF_16, hF_55, ald_s g0 (i := 1) (j := 1) (by decide) (by decide), ald_s g0 (i := 2) (j := 2) (by decide) (by decide), ald_s g0 (i := 3) (j := 3) (by decide) (by decide), ald_s g0 (i := 4) (j := 4) (by decide) (by decide), ald_s g0 (i := 5) (j := 5) (by decide) (by decide), ald_s g0 (i := 6) (j := 6) (by decide) (by decide), ald_s g1 (i := 1) (j := 1) (by decide) (by decide), ald_s g1 (i := 2) (j := 2) (by decide) (by decide), ald_s g1 (i := 3) (j := 3) (by decide) (by decide), ald_s g1 (i := 4) (j := 4) (by decide) (by decide), ald_s g1 (i := 5) (j := 5) (by decide) (by decide), ald_s g1 (i := 6) (j := 6) (by decide) (by decide), show (0 : Int32) + 1 = 1 from rfl, show (0 : Int32) + 2 = 2 from rfl, show (0 : Int32) + 3 = 3 from rfl, show (0 : Int32) + 4 = 4 from rfl, show (0 : Int32) + 5 = 5 from rfl, show (0 : Int32) + 6 = 6 from rfl, qMC_det e1, qMC_det e2, hm1, hm2, lg_self, eq_self, ↓reduceIte, qg_7, qg_8, qg_9, qg_10, qg_11, not_true_eq_false, not_false_eq_true, Nat.reduceBEq, Bool.false_eq_true, Nat.reduceMul, qg_0, qg_1, qg_2, qg_3, qg_4, qg_5, qg_6, ex1, ex3, ex4, qfit_i, qfit_l, qfit_r, qfit_n, qfit_b0, qfit_b1, qcat_i, qcat_r, qcat_n, qcat_l, qroom_0, qroom_c, List.map_cons, List.map_nil, List.sum_cons, List.sum_nil, Nat.reduceAdd, Nat.reduceLT, Nat.reduceLeDiff, Nat.reduceEqDiff, Nat.reduceSub, decide_true, true_and, and_true, and_self, if_true, if_false, Option.toList_some, Option.toList_none, List.cons_append, List.nil_append, qput_mk, qiast_mk, qup_at, exF, qnF0, qnF1, qnF2, qnF3, qnF4, qnF5, qnF6, qnF7, qnF8, qnF9, qnF10, qnF11]
  exact hend
set_option maxRecDepth 100000 in
set_option maxHeartbeats 8000000 in
theorem law_22 {f : Nat → qC} {xs : Nat → Int32} (h0 : f 0 = .inl (0, 7, .inl xs)) : ∃ h2, qEv 1000 3 qk_318 984 [some (.ref 0), some (.ref 16), some (.ref 55), some (.int 0)] [] (hF f, 97, 78870) (some (.int 1), h2) ∧ h2.2 = (97, 78870) := by
  have hp : ∃ v, prI 155 260 [.int (xs 1)] (991 + 9) 78870 f v := pa_row
  obtain ⟨v, h1, e1, h2, e2, e3⟩ := hp
  have e1 : qMC 1000 155 [.ref 16, .int (xs 1)] (hF f, 97, 78870) (some (.int v), h1) := e1
  have e2 : qMC 1000 260 [.ref 55, .int (xs 1)] h1 (some (.int v), h2) := e2
  have k1 := e1.keep
  have k2 := e2.keep
  have g0 : hF f 0 = .inl (0, 7, .inl xs) := (hF_lo (by omega)).trans h0
  have g1 : h1.1 0 = .inl (0, 7, .inl xs) := (k1.2.2.2 (show 16 ≤ 97 by decide) 0 (by omega)).trans g0
  have g2 : h2.1 0 = .inl (0, 7, .inl xs) := (k2.2.2.2 (Nat.le_trans (show 16 ≤ 97 by decide) k1.1) 0 (by omega)).trans g1
  have hm1 : (55 < h1.2.1) = True := eq_true (Nat.lt_of_lt_of_le (show 55 < 97 by decide) k1.1)
  have hm2 : (∃ F, h1.1 55 = .inr (11, F)) = True := eq_true (k1.obj (show 55 < 97 by decide) (hF_55 (f := f)))
  have hend := law_last g2
  refine ⟨h2, ?_, e3⟩
  obtain ⟨h1f, h1n, h1s⟩ := h1
  simp only [e318_984, e318_985, e318_986, e318_987, e318_988, e318_989, e318_990, e318_993, e318_994, e318_995, e318_996, e318_997, e318_998, e318_999, e318_1002, e318_1005, e318_1006, hF_16, hF_55, ald_s g0 (i := 1) (j := 1) (by decide) (by decide), ald_s g0 (i := 2) (j := 2) (by decide) (by decide), ald_s g0 (i := 3) (j := 3) (by decide) (by decide), ald_s g0 (i := 4) (j := 4) (by decide) (by decide), ald_s g0 (i := 5) (j := 5) (by decide) (by decide), ald_s g0 (i := 6) (j := 6) (by decide) (by decide), ald_s g1 (i := 1) (j := 1) (by decide) (by decide), ald_s g1 (i := 2) (j := 2) (by decide) (by decide), ald_s g1 (i := 3) (j := 3) (by decide) (by decide), ald_s g1 (i := 4) (j := 4) (by decide) (by decide), ald_s g1 (i := 5) (j := 5) (by decide) (by decide), ald_s g1 (i := 6) (j := 6) (by decide) (by decide), show (0 : Int32) + 1 = 1 from rfl, show (0 : Int32) + 2 = 2 from rfl, show (0 : Int32) + 3 = 3 from rfl, show (0 : Int32) + 4 = 4 from rfl, show (0 : Int32) + 5 = 5 from rfl, show (0 : Int32) + 6 = 6 from rfl, qMC_det e1, qMC_det e2, hm1, hm2, lg_self, eq_self, ↓reduceIte, qg_7, qg_8, qg_9, qg_10, qg_11, not_true_eq_false, not_false_eq_true, Nat.reduceBEq, Bool.false_eq_true, Nat.reduceMul, qg_0, qg_1, qg_2, qg_3, qg_4, qg_5, qg_6, ex1, ex3, ex4, qfit_i, qfit_l, qfit_r, qfit_n, qfit_b0, qfit_b1, qcat_i, qcat_r, qcat_n, qcat_l, qroom_0, qroom_c, List.map_cons, List.map_nil, List.sum_cons, List.sum_nil, Nat.reduceAdd, Nat.reduceLT, Nat.reduceLeDiff, Nat.reduceEqDiff, Nat.reduceSub, decide_true, true_and, and_true, and_self, if_true, if_false, Option.toList_some, Option.toList_none, List.cons_append, List.nil_append, qput_mk, qiast_mk, qup_at, exF, qnF0, qnF1, qnF2, qnF3, qnF4, qnF5, qnF6, qnF7, qnF8, qnF9, qnF10, qnF11]
  exact hend
set_option maxRecDepth 100000 in
set_option maxHeartbeats 8000000 in
theorem law_23 {f : Nat → qC} {xs : Nat → Int32} (h0 : f 0 = .inl (0, 7, .inl xs)) : ∃ h2, qEv 1000 3 qk_318 1007 [some (.ref 0), some (.ref 16), some (.ref 55), some (.int 0)] [] (hF f, 97, 78870) (some (.int 1), h2) ∧ h2.2 = (97, 78870) := by
  have hp : ∃ v, prI 156 261 [] (991 + 9) 78870 f v := pa_clear
  obtain ⟨v, h1, e1, h2, e2, e3⟩ := hp
  have e1 : qMC 1000 156 [.ref 16] (hF f, 97, 78870) (some (.int v), h1) := e1
  have e2 : qMC 1000 261 [.ref 55] h1 (some (.int v), h2) := e2
  have k1 := e1.keep
  have k2 := e2.keep
  have g0 : hF f 0 = .inl (0, 7, .inl xs) := (hF_lo (by omega)).trans h0
  have g1 : h1.1 0 = .inl (0, 7, .inl xs) := (k1.2.2.2 (show 16 ≤ 97 by decide) 0 (by omega)).trans g0
  have g2 : h2.1 0 = .inl (0, 7, .inl xs) := (k2.2.2.2 (Nat.le_trans (show 16 ≤ 97 by decide) k1.1) 0 (by omega)).trans g1
  have hm1 : (55 < h1.2.1) = True := eq_true (Nat.lt_of_lt_of_le (show 55 < 97 by decide) k1.1)
  have hm2 : (∃ F, h1.1 55 = .inr (11, F)) = True := eq_true (k1.obj (show 55 < 97 by decide) (hF_55 (f := f)))
  have hend := law_last g2
  refine ⟨h2, ?_, e3⟩
  obtain ⟨h1f, h1n, h1s⟩ := h1
  simp only [e318_1007, e318_1008, e318_1011, e318_1012, e318_1015, e318_1018, e318_1019, hF_16, hF_55, ald_s g0 (i := 1) (j := 1) (by decide) (by decide), ald_s g0 (i := 2) (j := 2) (by decide) (by decide), ald_s g0 (i := 3) (j := 3) (by decide) (by decide), ald_s g0 (i := 4) (j := 4) (by decide) (by decide), ald_s g0 (i := 5) (j := 5) (by decide) (by decide), ald_s g0 (i := 6) (j := 6) (by decide) (by decide), ald_s g1 (i := 1) (j := 1) (by decide) (by decide), ald_s g1 (i := 2) (j := 2) (by decide) (by decide), ald_s g1 (i := 3) (j := 3) (by decide) (by decide), ald_s g1 (i := 4) (j := 4) (by decide) (by decide), ald_s g1 (i := 5) (j := 5) (by decide) (by decide), ald_s g1 (i := 6) (j := 6) (by decide) (by decide), show (0 : Int32) + 1 = 1 from rfl, show (0 : Int32) + 2 = 2 from rfl, show (0 : Int32) + 3 = 3 from rfl, show (0 : Int32) + 4 = 4 from rfl, show (0 : Int32) + 5 = 5 from rfl, show (0 : Int32) + 6 = 6 from rfl, qMC_det e1, qMC_det e2, hm1, hm2, lg_self, eq_self, ↓reduceIte, qg_7, qg_8, qg_9, qg_10, qg_11, not_true_eq_false, not_false_eq_true, Nat.reduceBEq, Bool.false_eq_true, Nat.reduceMul, qg_0, qg_1, qg_2, qg_3, qg_4, qg_5, qg_6, ex1, ex3, ex4, qfit_i, qfit_l, qfit_r, qfit_n, qfit_b0, qfit_b1, qcat_i, qcat_r, qcat_n, qcat_l, qroom_0, qroom_c, List.map_cons, List.map_nil, List.sum_cons, List.sum_nil, Nat.reduceAdd, Nat.reduceLT, Nat.reduceLeDiff, Nat.reduceEqDiff, Nat.reduceSub, decide_true, true_and, and_true, and_self, if_true, if_false, Option.toList_some, Option.toList_none, List.cons_append, List.nil_append, qput_mk, qiast_mk, qup_at, exF, qnF0, qnF1, qnF2, qnF3, qnF4, qnF5, qnF6, qnF7, qnF8, qnF9, qnF10, qnF11]
  exact hend
set_option maxRecDepth 100000 in
set_option maxHeartbeats 8000000 in
theorem law_24 {f : Nat → qC} {xs : Nat → Int32} (h0 : f 0 = .inl (0, 7, .inl xs)) : ∃ h2, qEv 1000 3 qk_318 1020 [some (.ref 0), some (.ref 16), some (.ref 55), some (.int 0)] [] (hF f, 97, 78870) (some (.int 1), h2) ∧ h2.2 = (97, 78870) := by
  have hp : ∃ v, prI 157 264 [.int (xs 1)] (991 + 9) 78870 f v := pa_meets
  obtain ⟨v, h1, e1, h2, e2, e3⟩ := hp
  have e1 : qMC 1000 157 [.ref 16, .int (xs 1)] (hF f, 97, 78870) (some (.int v), h1) := e1
  have e2 : qMC 1000 264 [.ref 55, .int (xs 1)] h1 (some (.int v), h2) := e2
  have k1 := e1.keep
  have k2 := e2.keep
  have g0 : hF f 0 = .inl (0, 7, .inl xs) := (hF_lo (by omega)).trans h0
  have g1 : h1.1 0 = .inl (0, 7, .inl xs) := (k1.2.2.2 (show 16 ≤ 97 by decide) 0 (by omega)).trans g0
  have g2 : h2.1 0 = .inl (0, 7, .inl xs) := (k2.2.2.2 (Nat.le_trans (show 16 ≤ 97 by decide) k1.1) 0 (by omega)).trans g1
  have hm1 : (55 < h1.2.1) = True := eq_true (Nat.lt_of_lt_of_le (show 55 < 97 by decide) k1.1)
  have hm2 : (∃ F, h1.1 55 = .inr (11, F)) = True := eq_true (k1.obj (show 55 < 97 by decide) (hF_55 (f := f)))
  have hend := law_last g2
  refine ⟨h2, ?_, e3⟩
  obtain ⟨h1f, h1n, h1s⟩ := h1
  simp only [e318_1020, e318_1021, e318_1022, e318_1023, e318_1024, e318_1025, e318_1026, e318_1029, e318_1030, e318_1031, e318_1032, e318_1033, e318_1034, e318_1035, e318_1038, e318_1041, e318_1042, hF_16, hF_55, ald_s g0 (i := 1) (j := 1) (by decide) (by decide), ald_s g0 (i := 2) (j := 2) (by decide) (by decide), ald_s g0 (i := 3) (j := 3) (by decide) (by decide), ald_s g0 (i := 4) (j := 4) (by decide) (by decide), ald_s g0 (i := 5) (j := 5) (by decide) (by decide), ald_s g0 (i := 6) (j := 6) (by decide) (by decide), ald_s g1 (i := 1) (j := 1) (by decide) (by decide), ald_s g1 (i := 2) (j := 2) (by decide) (by decide), ald_s g1 (i := 3) (j := 3) (by decide) (by decide), ald_s g1 (i := 4) (j := 4) (by decide) (by decide), ald_s g1 (i := 5) (j := 5) (by decide) (by decide), ald_s g1 (i := 6) (j := 6) (by decide) (by decide), show (0 : Int32) + 1 = 1 from rfl, show (0 : Int32) + 2 = 2 from rfl, show (0 : Int32) + 3 = 3 from rfl, show (0 : Int32) + 4 = 4 from rfl, show (0 : Int32) + 5 = 5 from rfl, show (0 : Int32) + 6 = 6 from rfl, qMC_det e1, qMC_det e2, hm1, hm2, lg_self, eq_self, ↓reduceIte, qg_7, qg_8, qg_9, qg_10, qg_11, not_true_eq_false, not_false_eq_true, Nat.reduceBEq, Bool.false_eq_true, Nat.reduceMul, qg_0, qg_1, qg_2, qg_3, qg_4, qg_5, qg_6, ex1, ex3, ex4, qfit_i, qfit_l, qfit_r, qfit_n, qfit_b0, qfit_b1, qcat_i, qcat_r, qcat_n, qcat_l, qroom_0, qroom_c, List.map_cons, List.map_nil, List.sum_cons, List.sum_nil, Nat.reduceAdd, Nat.reduceLT, Nat.reduceLeDiff, Nat.reduceEqDiff, Nat.reduceSub, decide_true, true_and, and_true, and_self, if_true, if_false, Option.toList_some, Option.toList_none, List.cons_append, List.nil_append, qput_mk, qiast_mk, qup_at, exF, qnF0, qnF1, qnF2, qnF3, qnF4, qnF5, qnF6, qnF7, qnF8, qnF9, qnF10, qnF11]
  exact hend
set_option maxRecDepth 100000 in
set_option maxHeartbeats 8000000 in
theorem law_25 {f : Nat → qC} {xs : Nat → Int32} (h0 : f 0 = .inl (0, 7, .inl xs)) : ∃ h2, qEv 1000 3 qk_318 1043 [some (.ref 0), some (.ref 16), some (.ref 55), some (.int 0)] [] (hF f, 97, 78870) (some (.int 1), h2) ∧ h2.2 = (97, 78870) := by
  have hp : ∃ v, prI 158 266 [.int (xs 1), .int (xs 2)] (991 + 9) 78870 f v := pa_fresh
  obtain ⟨v, h1, e1, h2, e2, e3⟩ := hp
  have e1 : qMC 1000 158 [.ref 16, .int (xs 1), .int (xs 2)] (hF f, 97, 78870) (some (.int v), h1) := e1
  have e2 : qMC 1000 266 [.ref 55, .int (xs 1), .int (xs 2)] h1 (some (.int v), h2) := e2
  have k1 := e1.keep
  have k2 := e2.keep
  have g0 : hF f 0 = .inl (0, 7, .inl xs) := (hF_lo (by omega)).trans h0
  have g1 : h1.1 0 = .inl (0, 7, .inl xs) := (k1.2.2.2 (show 16 ≤ 97 by decide) 0 (by omega)).trans g0
  have g2 : h2.1 0 = .inl (0, 7, .inl xs) := (k2.2.2.2 (Nat.le_trans (show 16 ≤ 97 by decide) k1.1) 0 (by omega)).trans g1
  have hm1 : (55 < h1.2.1) = True := eq_true (Nat.lt_of_lt_of_le (show 55 < 97 by decide) k1.1)
  have hm2 : (∃ F, h1.1 55 = .inr (11, F)) = True := eq_true (k1.obj (show 55 < 97 by decide) (hF_55 (f := f)))
  have hend := law_last g2
  refine ⟨h2, ?_, e3⟩
  obtain ⟨h1f, h1n, h1s⟩ := h1
  simp only [e318_1043, e318_1044, e318_1045, e318_1046, e318_1047, e318_1048, e318_1049, e318_1050, e318_1051, e318_1052, e318_1053, e318_1054, e318_1057, e318_1058, e318_1059, e318_1060, e318_1061, e318_1062, e318_1063, e318_1064, e318_1065, e318_1066, e318_1067, e318_1068, e318_1071, e318_1074, e318_1075, hF_16, hF_55, ald_s g0 (i := 1) (j := 1) (by decide) (by decide), ald_s g0 (i := 2) (j := 2) (by decide) (by decide), ald_s g0 (i := 3) (j := 3) (by decide) (by decide), ald_s g0 (i := 4) (j := 4) (by decide) (by decide), ald_s g0 (i := 5) (j := 5) (by decide) (by decide), ald_s g0 (i := 6) (j := 6) (by decide) (by decide), ald_s g1 (i := 1) (j := 1) (by decide) (by decide), ald_s g1 (i := 2) (j := 2) (by decide) (by decide), ald_s g1 (i := 3) (j := 3) (by decide) (by decide), ald_s g1 (i := 4) (j := 4) (by decide) (by decide), ald_s g1 (i := 5) (j := 5) (by decide) (by decide), ald_s g1 (i := 6) (j := 6) (by decide) (by decide), show (0 : Int32) + 1 = 1 from rfl, show (0 : Int32) + 2 = 2 from rfl, show (0 : Int32) + 3 = 3 from rfl, show (0 : Int32) + 4 = 4 from rfl, show (0 : Int32) + 5 = 5 from rfl, show (0 : Int32) + 6 = 6 from rfl, qMC_det e1, qMC_det e2, hm1, hm2, lg_self, eq_self, ↓reduceIte, qg_7, qg_8, qg_9, qg_10, qg_11, not_true_eq_false, not_false_eq_true, Nat.reduceBEq, Bool.false_eq_true, Nat.reduceMul, qg_0, qg_1, qg_2, qg_3, qg_4, qg_5, qg_6, ex1, ex3, ex4, qfit_i, qfit_l, qfit_r, qfit_n, qfit_b0, qfit_b1, qcat_i, qcat_r, qcat_n, qcat_l, qroom_0, qroom_c, List.map_cons, List.map_nil, List.sum_cons, List.sum_nil, Nat.reduceAdd, Nat.reduceLT, Nat.reduceLeDiff, Nat.reduceEqDiff, Nat.reduceSub, decide_true, true_and, and_true, and_self, if_true, if_false, Option.toList_some, Option.toList_none, List.cons_append, List.nil_append, qput_mk, qiast_mk, qup_at, exF, qnF0, qnF1, qnF2, qnF3, qnF4, qnF5, qnF6, qnF7, qnF8, qnF9, qnF10, qnF11]
  exact hend
set_option maxRecDepth 100000 in
set_option maxHeartbeats 8000000 in
theorem law_26 {f : Nat → qC} {xs : Nat → Int32} (h0 : f 0 = .inl (0, 7, .inl xs)) : ∃ h2, qEv 1000 3 qk_318 1076 [some (.ref 0), some (.ref 16), some (.ref 55), some (.int 0)] [] (hF f, 97, 78870) (some (.int 1), h2) ∧ h2.2 = (97, 78870) := by
  have hp : ∃ v, prI 159 270 [.int (xs 1), .int (xs 2), .int (xs 3)] (991 + 9) 78870 f v := pa_walk
  obtain ⟨v, h1, e1, h2, e2, e3⟩ := hp
  have e1 : qMC 1000 159 [.ref 16, .int (xs 1), .int (xs 2), .int (xs 3)] (hF f, 97, 78870) (some (.int v), h1) := e1
  have e2 : qMC 1000 270 [.ref 55, .int (xs 1), .int (xs 2), .int (xs 3)] h1 (some (.int v), h2) := e2
  have k1 := e1.keep
  have k2 := e2.keep
  have g0 : hF f 0 = .inl (0, 7, .inl xs) := (hF_lo (by omega)).trans h0
  have g1 : h1.1 0 = .inl (0, 7, .inl xs) := (k1.2.2.2 (show 16 ≤ 97 by decide) 0 (by omega)).trans g0
  have g2 : h2.1 0 = .inl (0, 7, .inl xs) := (k2.2.2.2 (Nat.le_trans (show 16 ≤ 97 by decide) k1.1) 0 (by omega)).trans g1
  have hm1 : (55 < h1.2.1) = True := eq_true (Nat.lt_of_lt_of_le (show 55 < 97 by decide) k1.1)
  have hm2 : (∃ F, h1.1 55 = .inr (11, F)) = True := eq_true (k1.obj (show 55 < 97 by decide) (hF_55 (f := f)))
  have hend := law_last g2
  refine ⟨h2, ?_, e3⟩
  obtain ⟨h1f, h1n, h1s⟩ := h1
  simp only [e318_1076, e318_1077, e318_1078, e318_1079, e318_1080, e318_1081, e318_1082, e318_1083, e318_1084, e318_1085, e318_1086, e318_1087, e318_1088, e318_1089, e318_1090, e318_1091, e318_1092, e318_1095, e318_1096, e318_1097, e318_1098, e318_1099, e318_1100, e318_1101, e318_1102, e318_1103, e318_1104, e318_1105, e318_1106, e318_1107, e318_1108, e318_1109, e318_1110, e318_1111, e318_1114, e318_1117, e318_1118, hF_16, hF_55, ald_s g0 (i := 1) (j := 1) (by decide) (by decide), ald_s g0 (i := 2) (j := 2) (by decide) (by decide), ald_s g0 (i := 3) (j := 3) (by decide) (by decide), ald_s g0 (i := 4) (j := 4) (by decide) (by decide), ald_s g0 (i := 5) (j := 5) (by decide) (by decide), ald_s g0 (i := 6) (j := 6) (by decide) (by decide), ald_s g1 (i := 1) (j := 1) (by decide) (by decide), ald_s g1 (i := 2) (j := 2) (by decide) (by decide), ald_s g1 (i := 3) (j := 3) (by decide) (by decide), ald_s g1 (i := 4) (j := 4) (by decide) (by decide), ald_s g1 (i := 5) (j := 5) (by decide) (by decide), ald_s g1 (i := 6) (j := 6) (by decide) (by decide), show (0 : Int32) + 1 = 1 from rfl, show (0 : Int32) + 2 = 2 from rfl, show (0 : Int32) + 3 = 3 from rfl, show (0 : Int32) + 4 = 4 from rfl, show (0 : Int32) + 5 = 5 from rfl, show (0 : Int32) + 6 = 6 from rfl, qMC_det e1, qMC_det e2, hm1, hm2, lg_self, eq_self, ↓reduceIte, qg_7, qg_8, qg_9, qg_10, qg_11, not_true_eq_false, not_false_eq_true, Nat.reduceBEq, Bool.false_eq_true, Nat.reduceMul, qg_0, qg_1, qg_2, qg_3, qg_4, qg_5, qg_6, ex1, ex3, ex4, qfit_i, qfit_l, qfit_r, qfit_n, qfit_b0, qfit_b1, qcat_i, qcat_r, qcat_n, qcat_l, qroom_0, qroom_c, List.map_cons, List.map_nil, List.sum_cons, List.sum_nil, Nat.reduceAdd, Nat.reduceLT, Nat.reduceLeDiff, Nat.reduceEqDiff, Nat.reduceSub, decide_true, true_and, and_true, and_self, if_true, if_false, Option.toList_some, Option.toList_none, List.cons_append, List.nil_append, qput_mk, qiast_mk, qup_at, exF, qnF0, qnF1, qnF2, qnF3, qnF4, qnF5, qnF6, qnF7, qnF8, qnF9, qnF10, qnF11]
  exact hend
set_option maxRecDepth 100000 in
set_option maxHeartbeats 8000000 in
theorem law_27 {f : Nat → qC} {xs : Nat → Int32} (h0 : f 0 = .inl (0, 7, .inl xs)) : ∃ h2, qEv 1000 3 qk_318 1119 [some (.ref 0), some (.ref 16), some (.ref 55), some (.int 0)] [] (hF f, 97, 78870) (some (.int 1), h2) ∧ h2.2 = (97, 78870) := by
  have hp : ∃ v, prI 160 271 [.int (xs 1)] (991 + 9) 78870 f v := pa_far
  obtain ⟨v, h1, e1, h2, e2, e3⟩ := hp
  have e1 : qMC 1000 160 [.ref 16, .int (xs 1)] (hF f, 97, 78870) (some (.int v), h1) := e1
  have e2 : qMC 1000 271 [.ref 55, .int (xs 1)] h1 (some (.int v), h2) := e2
  have k1 := e1.keep
  have k2 := e2.keep
  have g0 : hF f 0 = .inl (0, 7, .inl xs) := (hF_lo (by omega)).trans h0
  have g1 : h1.1 0 = .inl (0, 7, .inl xs) := (k1.2.2.2 (show 16 ≤ 97 by decide) 0 (by omega)).trans g0
  have g2 : h2.1 0 = .inl (0, 7, .inl xs) := (k2.2.2.2 (Nat.le_trans (show 16 ≤ 97 by decide) k1.1) 0 (by omega)).trans g1
  have hm1 : (55 < h1.2.1) = True := eq_true (Nat.lt_of_lt_of_le (show 55 < 97 by decide) k1.1)
  have hm2 : (∃ F, h1.1 55 = .inr (11, F)) = True := eq_true (k1.obj (show 55 < 97 by decide) (hF_55 (f := f)))
  have hend := law_last g2
  refine ⟨h2, ?_, e3⟩
  obtain ⟨h1f, h1n, h1s⟩ := h1
  simp only [e318_1119, e318_1120, e318_1121, e318_1122, e318_1123, e318_1124, e318_1125, e318_1128, e318_1129, e318_1130, e318_1131, e318_1132, e318_1133, e318_1134, e318_1137, e318_1140, e318_1141, hF_16, hF_55, ald_s g0 (i := 1) (j := 1) (by decide) (by decide), ald_s g0 (i := 2) (j := 2) (by decide) (by decide), ald_s g0 (i := 3) (j := 3) (by decide) (by decide), ald_s g0 (i := 4) (j := 4) (by decide) (by decide), ald_s g0 (i := 5) (j := 5) (by decide) (by decide), ald_s g0 (i := 6) (j := 6) (by decide) (by decide), ald_s g1 (i := 1) (j := 1) (by decide) (by decide), ald_s g1 (i := 2) (j := 2) (by decide) (by decide), ald_s g1 (i := 3) (j := 3) (by decide) (by decide), ald_s g1 (i := 4) (j := 4) (by decide) (by decide), ald_s g1 (i := 5) (j := 5) (by decide) (by decide), ald_s g1 (i := 6) (j := 6) (by decide) (by decide), show (0 : Int32) + 1 = 1 from rfl, show (0 : Int32) + 2 = 2 from rfl, show (0 : Int32) + 3 = 3 from rfl, show (0 : Int32) + 4 = 4 from rfl, show (0 : Int32) + 5 = 5 from rfl, show (0 : Int32) + 6 = 6 from rfl, qMC_det e1, qMC_det e2, hm1, hm2, lg_self, eq_self, ↓reduceIte, qg_7, qg_8, qg_9, qg_10, qg_11, not_true_eq_false, not_false_eq_true, Nat.reduceBEq, Bool.false_eq_true, Nat.reduceMul, qg_0, qg_1, qg_2, qg_3, qg_4, qg_5, qg_6, ex1, ex3, ex4, qfit_i, qfit_l, qfit_r, qfit_n, qfit_b0, qfit_b1, qcat_i, qcat_r, qcat_n, qcat_l, qroom_0, qroom_c, List.map_cons, List.map_nil, List.sum_cons, List.sum_nil, Nat.reduceAdd, Nat.reduceLT, Nat.reduceLeDiff, Nat.reduceEqDiff, Nat.reduceSub, decide_true, true_and, and_true, and_self, if_true, if_false, Option.toList_some, Option.toList_none, List.cons_append, List.nil_append, qput_mk, qiast_mk, qup_at, exF, qnF0, qnF1, qnF2, qnF3, qnF4, qnF5, qnF6, qnF7, qnF8, qnF9, qnF10, qnF11]
  exact hend
set_option maxRecDepth 100000 in
set_option maxHeartbeats 8000000 in
theorem law_28 {f : Nat → qC} {xs : Nat → Int32} (h0 : f 0 = .inl (0, 7, .inl xs)) : ∃ h2, qEv 1000 3 qk_318 1142 [some (.ref 0), some (.ref 16), some (.ref 55), some (.int 0)] [] (hF f, 97, 78870) (some (.int 1), h2) ∧ h2.2 = (97, 78870) := by
  have hp : ∃ v, prI 161 272 [.int (xs 1), .int (xs 2), .int (xs 3), .int (xs 4)] (991 + 9) 78870 f v := pa_tilt
  obtain ⟨v, h1, e1, h2, e2, e3⟩ := hp
  have e1 : qMC 1000 161 [.ref 16, .int (xs 1), .int (xs 2), .int (xs 3), .int (xs 4)] (hF f, 97, 78870) (some (.int v), h1) := e1
  have e2 : qMC 1000 272 [.ref 55, .int (xs 1), .int (xs 2), .int (xs 3), .int (xs 4)] h1 (some (.int v), h2) := e2
  have k1 := e1.keep
  have k2 := e2.keep
  have g0 : hF f 0 = .inl (0, 7, .inl xs) := (hF_lo (by omega)).trans h0
  have g1 : h1.1 0 = .inl (0, 7, .inl xs) := (k1.2.2.2 (show 16 ≤ 97 by decide) 0 (by omega)).trans g0
  have g2 : h2.1 0 = .inl (0, 7, .inl xs) := (k2.2.2.2 (Nat.le_trans (show 16 ≤ 97 by decide) k1.1) 0 (by omega)).trans g1
  have hm1 : (55 < h1.2.1) = True := eq_true (Nat.lt_of_lt_of_le (show 55 < 97 by decide) k1.1)
  have hm2 : (∃ F, h1.1 55 = .inr (11, F)) = True := eq_true (k1.obj (show 55 < 97 by decide) (hF_55 (f := f)))
  have hend := law_last g2
  refine ⟨h2, ?_, e3⟩
  obtain ⟨h1f, h1n, h1s⟩ := h1
  simp only [e318_1142, e318_1143, e318_1144, e318_1145, e318_1146, e318_1147, e318_1148, e318_1149, e318_1150, e318_1151, e318_1152, e318_1153, e318_1154, e318_1155, e318_1156, e318_1157, e318_1158, e318_1159, e318_1160, e318_1161, e318_1162, e318_1163, e318_1166, e318_1167, e318_1168, e318_1169, e318_1170, e318_1171, e318_1172, e318_1173, e318_1174, e318_1175, e318_1176, e318_1177, e318_1178, e318_1179, e318_1180, e318_1181, e318_1182, e318_1183, e318_1184, e318_1185, e318_1186, e318_1187, e318_1190, e318_1193, e318_1194, hF_16, hF_55, ald_s g0 (i := 1) (j := 1) (by decide) (by decide), ald_s g0 (i := 2) (j := 2) (by decide) (by decide), ald_s g0 (i := 3) (j := 3) (by decide) (by decide), ald_s g0 (i := 4) (j := 4) (by decide) (by decide), ald_s g0 (i := 5) (j := 5) (by decide) (by decide), ald_s g0 (i := 6) (j := 6) (by decide) (by decide), ald_s g1 (i := 1) (j := 1) (by decide) (by decide), ald_s g1 (i := 2) (j := 2) (by decide) (by decide), ald_s g1 (i := 3) (j := 3) (by decide) (by decide), ald_s g1 (i := 4) (j := 4) (by decide) (by decide), ald_s g1 (i := 5) (j := 5) (by decide) (by decide), ald_s g1 (i := 6) (j := 6) (by decide) (by decide), show (0 : Int32) + 1 = 1 from rfl, show (0 : Int32) + 2 = 2 from rfl, show (0 : Int32) + 3 = 3 from rfl, show (0 : Int32) + 4 = 4 from rfl, show (0 : Int32) + 5 = 5 from rfl, show (0 : Int32) + 6 = 6 from rfl, qMC_det e1, qMC_det e2, hm1, hm2, lg_self, eq_self, ↓reduceIte, qg_7, qg_8, qg_9, qg_10, qg_11, not_true_eq_false, not_false_eq_true, Nat.reduceBEq, Bool.false_eq_true, Nat.reduceMul, qg_0, qg_1, qg_2, qg_3, qg_4, qg_5, qg_6, ex1, ex3, ex4, qfit_i, qfit_l, qfit_r, qfit_n, qfit_b0, qfit_b1, qcat_i, qcat_r, qcat_n, qcat_l, qroom_0, qroom_c, List.map_cons, List.map_nil, List.sum_cons, List.sum_nil, Nat.reduceAdd, Nat.reduceLT, Nat.reduceLeDiff, Nat.reduceEqDiff, Nat.reduceSub, decide_true, true_and, and_true, and_self, if_true, if_false, Option.toList_some, Option.toList_none, List.cons_append, List.nil_append, qput_mk, qiast_mk, qup_at, exF, qnF0, qnF1, qnF2, qnF3, qnF4, qnF5, qnF6, qnF7, qnF8, qnF9, qnF10, qnF11]
  exact hend
set_option maxRecDepth 100000 in
set_option maxHeartbeats 8000000 in
theorem law_29 {f : Nat → qC} {xs : Nat → Int32} (h0 : f 0 = .inl (0, 7, .inl xs)) : ∃ h2, qEv 1000 3 qk_318 1195 [some (.ref 0), some (.ref 16), some (.ref 55), some (.int 0)] [] (hF f, 97, 78870) (some (.int 1), h2) ∧ h2.2 = (97, 78870) := by
  have hp : ∃ v, prI 162 274 [.int (xs 1), .int (xs 2), .int (xs 3)] (991 + 9) 78870 f v := pa_up
  obtain ⟨v, h1, e1, h2, e2, e3⟩ := hp
  have e1 : qMC 1000 162 [.ref 16, .int (xs 1), .int (xs 2), .int (xs 3)] (hF f, 97, 78870) (some (.int v), h1) := e1
  have e2 : qMC 1000 274 [.ref 55, .int (xs 1), .int (xs 2), .int (xs 3)] h1 (some (.int v), h2) := e2
  have k1 := e1.keep
  have k2 := e2.keep
  have g0 : hF f 0 = .inl (0, 7, .inl xs) := (hF_lo (by omega)).trans h0
  have g1 : h1.1 0 = .inl (0, 7, .inl xs) := (k1.2.2.2 (show 16 ≤ 97 by decide) 0 (by omega)).trans g0
  have g2 : h2.1 0 = .inl (0, 7, .inl xs) := (k2.2.2.2 (Nat.le_trans (show 16 ≤ 97 by decide) k1.1) 0 (by omega)).trans g1
  have hm1 : (55 < h1.2.1) = True := eq_true (Nat.lt_of_lt_of_le (show 55 < 97 by decide) k1.1)
  have hm2 : (∃ F, h1.1 55 = .inr (11, F)) = True := eq_true (k1.obj (show 55 < 97 by decide) (hF_55 (f := f)))
  have hend := law_last g2
  refine ⟨h2, ?_, e3⟩
  obtain ⟨h1f, h1n, h1s⟩ := h1
  simp only [e318_1195, e318_1196, e318_1197, e318_1198, e318_1199, e318_1200, e318_1201, e318_1202, e318_1203, e318_1204, e318_1205, e318_1206, e318_1207, e318_1208, e318_1209, e318_1210, e318_1211, e318_1214, e318_1215, e318_1216, e318_1217, e318_1218, e318_1219, e318_1220, e318_1221, e318_1222, e318_1223, e318_1224, e318_1225, e318_1226, e318_1227, e318_1228, e318_1229, e318_1230, e318_1233, e318_1236, e318_1237, hF_16, hF_55, ald_s g0 (i := 1) (j := 1) (by decide) (by decide), ald_s g0 (i := 2) (j := 2) (by decide) (by decide), ald_s g0 (i := 3) (j := 3) (by decide) (by decide), ald_s g0 (i := 4) (j := 4) (by decide) (by decide), ald_s g0 (i := 5) (j := 5) (by decide) (by decide), ald_s g0 (i := 6) (j := 6) (by decide) (by decide), ald_s g1 (i := 1) (j := 1) (by decide) (by decide), ald_s g1 (i := 2) (j := 2) (by decide) (by decide), ald_s g1 (i := 3) (j := 3) (by decide) (by decide), ald_s g1 (i := 4) (j := 4) (by decide) (by decide), ald_s g1 (i := 5) (j := 5) (by decide) (by decide), ald_s g1 (i := 6) (j := 6) (by decide) (by decide), show (0 : Int32) + 1 = 1 from rfl, show (0 : Int32) + 2 = 2 from rfl, show (0 : Int32) + 3 = 3 from rfl, show (0 : Int32) + 4 = 4 from rfl, show (0 : Int32) + 5 = 5 from rfl, show (0 : Int32) + 6 = 6 from rfl, qMC_det e1, qMC_det e2, hm1, hm2, lg_self, eq_self, ↓reduceIte, qg_7, qg_8, qg_9, qg_10, qg_11, not_true_eq_false, not_false_eq_true, Nat.reduceBEq, Bool.false_eq_true, Nat.reduceMul, qg_0, qg_1, qg_2, qg_3, qg_4, qg_5, qg_6, ex1, ex3, ex4, qfit_i, qfit_l, qfit_r, qfit_n, qfit_b0, qfit_b1, qcat_i, qcat_r, qcat_n, qcat_l, qroom_0, qroom_c, List.map_cons, List.map_nil, List.sum_cons, List.sum_nil, Nat.reduceAdd, Nat.reduceLT, Nat.reduceLeDiff, Nat.reduceEqDiff, Nat.reduceSub, decide_true, true_and, and_true, and_self, if_true, if_false, Option.toList_some, Option.toList_none, List.cons_append, List.nil_append, qput_mk, qiast_mk, qup_at, exF, qnF0, qnF1, qnF2, qnF3, qnF4, qnF5, qnF6, qnF7, qnF8, qnF9, qnF10, qnF11]
  exact hend
set_option maxRecDepth 100000 in
set_option maxHeartbeats 8000000 in
theorem law_30 {f : Nat → qC} {xs : Nat → Int32} (h0 : f 0 = .inl (0, 7, .inl xs)) : ∃ h2, qEv 1000 3 qk_318 1238 [some (.ref 0), some (.ref 16), some (.ref 55), some (.int 0)] [] (hF f, 97, 78870) (some (.int 1), h2) ∧ h2.2 = (97, 78870) := by
  have hp : ∃ v, prL 163 275 [.int (xs 1), .int (xs 2), .int (xs 3)] (991 + 9) 78870 f v := pa_ups
  obtain ⟨v, h1, e1, h2, e2, e3⟩ := hp
  have e1 : qMC 1000 163 [.ref 16, .int (xs 1), .int (xs 2), .int (xs 3)] (hF f, 97, 78870) (some (.long v), h1) := e1
  have e2 : qMC 1000 275 [.ref 55, .int (xs 1), .int (xs 2), .int (xs 3)] h1 (some (.long v), h2) := e2
  have k1 := e1.keep
  have k2 := e2.keep
  have g0 : hF f 0 = .inl (0, 7, .inl xs) := (hF_lo (by omega)).trans h0
  have g1 : h1.1 0 = .inl (0, 7, .inl xs) := (k1.2.2.2 (show 16 ≤ 97 by decide) 0 (by omega)).trans g0
  have g2 : h2.1 0 = .inl (0, 7, .inl xs) := (k2.2.2.2 (Nat.le_trans (show 16 ≤ 97 by decide) k1.1) 0 (by omega)).trans g1
  have hm1 : (55 < h1.2.1) = True := eq_true (Nat.lt_of_lt_of_le (show 55 < 97 by decide) k1.1)
  have hm2 : (∃ F, h1.1 55 = .inr (11, F)) = True := eq_true (k1.obj (show 55 < 97 by decide) (hF_55 (f := f)))
  have hend := law_last g2
  refine ⟨h2, ?_, e3⟩
  obtain ⟨h1f, h1n, h1s⟩ := h1
  simp only [e318_1238, e318_1239, e318_1240, e318_1241, e318_1242, e318_1243, e318_1244, e318_1245, e318_1246, e318_1247, e318_1248, e318_1249, e318_1250, e318_1251, e318_1252, e318_1253, e318_1254, e318_1257, e318_1258, e318_1259, e318_1260, e318_1261, e318_1262, e318_1263, e318_1264, e318_1265, e318_1266, e318_1267, e318_1268, e318_1269, e318_1270, e318_1271, e318_1272, e318_1273, e318_1276, e318_1277, e318_1280, e318_1281, hF_16, hF_55, ald_s g0 (i := 1) (j := 1) (by decide) (by decide), ald_s g0 (i := 2) (j := 2) (by decide) (by decide), ald_s g0 (i := 3) (j := 3) (by decide) (by decide), ald_s g0 (i := 4) (j := 4) (by decide) (by decide), ald_s g0 (i := 5) (j := 5) (by decide) (by decide), ald_s g0 (i := 6) (j := 6) (by decide) (by decide), ald_s g1 (i := 1) (j := 1) (by decide) (by decide), ald_s g1 (i := 2) (j := 2) (by decide) (by decide), ald_s g1 (i := 3) (j := 3) (by decide) (by decide), ald_s g1 (i := 4) (j := 4) (by decide) (by decide), ald_s g1 (i := 5) (j := 5) (by decide) (by decide), ald_s g1 (i := 6) (j := 6) (by decide) (by decide), show (0 : Int32) + 1 = 1 from rfl, show (0 : Int32) + 2 = 2 from rfl, show (0 : Int32) + 3 = 3 from rfl, show (0 : Int32) + 4 = 4 from rfl, show (0 : Int32) + 5 = 5 from rfl, show (0 : Int32) + 6 = 6 from rfl, qMC_det e1, qMC_det e2, hm1, hm2, lg_self, eq_self, ↓reduceIte, qg_7, qg_8, qg_9, qg_10, qg_11, not_true_eq_false, not_false_eq_true, Nat.reduceBEq, Bool.false_eq_true, Nat.reduceMul, qg_0, qg_1, qg_2, qg_3, qg_4, qg_5, qg_6, ex1, ex3, ex4, qfit_i, qfit_l, qfit_r, qfit_n, qfit_b0, qfit_b1, qcat_i, qcat_r, qcat_n, qcat_l, qroom_0, qroom_c, List.map_cons, List.map_nil, List.sum_cons, List.sum_nil, Nat.reduceAdd, Nat.reduceLT, Nat.reduceLeDiff, Nat.reduceEqDiff, Nat.reduceSub, decide_true, true_and, and_true, and_self, if_true, if_false, Option.toList_some, Option.toList_none, List.cons_append, List.nil_append, qput_mk, qiast_mk, qup_at, exF, qnF0, qnF1, qnF2, qnF3, qnF4, qnF5, qnF6, qnF7, qnF8, qnF9, qnF10, qnF11]
  exact hend
set_option maxRecDepth 100000 in
set_option maxHeartbeats 8000000 in
theorem law_31 {f : Nat → qC} {xs : Nat → Int32} (h0 : f 0 = .inl (0, 7, .inl xs)) : ∃ h2, qEv 1000 3 qk_318 1282 [some (.ref 0), some (.ref 16), some (.ref 55), some (.int 0)] [] (hF f, 97, 78870) (some (.int 1), h2) ∧ h2.2 = (97, 78870) := by
  have hp : ∃ v, prI 164 277 [.int (xs 1), .int (xs 2)] (991 + 9) 78870 f v := pa_ring
  obtain ⟨v, h1, e1, h2, e2, e3⟩ := hp
  have e1 : qMC 1000 164 [.ref 16, .int (xs 1), .int (xs 2)] (hF f, 97, 78870) (some (.int v), h1) := e1
  have e2 : qMC 1000 277 [.ref 55, .int (xs 1), .int (xs 2)] h1 (some (.int v), h2) := e2
  have k1 := e1.keep
  have k2 := e2.keep
  have g0 : hF f 0 = .inl (0, 7, .inl xs) := (hF_lo (by omega)).trans h0
  have g1 : h1.1 0 = .inl (0, 7, .inl xs) := (k1.2.2.2 (show 16 ≤ 97 by decide) 0 (by omega)).trans g0
  have g2 : h2.1 0 = .inl (0, 7, .inl xs) := (k2.2.2.2 (Nat.le_trans (show 16 ≤ 97 by decide) k1.1) 0 (by omega)).trans g1
  have hm1 : (55 < h1.2.1) = True := eq_true (Nat.lt_of_lt_of_le (show 55 < 97 by decide) k1.1)
  have hm2 : (∃ F, h1.1 55 = .inr (11, F)) = True := eq_true (k1.obj (show 55 < 97 by decide) (hF_55 (f := f)))
  have hend := law_last g2
  refine ⟨h2, ?_, e3⟩
  obtain ⟨h1f, h1n, h1s⟩ := h1
  simp only [e318_1282, e318_1283, e318_1284, e318_1285, e318_1286, e318_1287, e318_1288, e318_1289, e318_1290, e318_1291, e318_1292, e318_1293, e318_1296, e318_1297, e318_1298, e318_1299, e318_1300, e318_1301, e318_1302, e318_1303, e318_1304, e318_1305, e318_1306, e318_1307, e318_1310, e318_1313, e318_1314, hF_16, hF_55, ald_s g0 (i := 1) (j := 1) (by decide) (by decide), ald_s g0 (i := 2) (j := 2) (by decide) (by decide), ald_s g0 (i := 3) (j := 3) (by decide) (by decide), ald_s g0 (i := 4) (j := 4) (by decide) (by decide), ald_s g0 (i := 5) (j := 5) (by decide) (by decide), ald_s g0 (i := 6) (j := 6) (by decide) (by decide), ald_s g1 (i := 1) (j := 1) (by decide) (by decide), ald_s g1 (i := 2) (j := 2) (by decide) (by decide), ald_s g1 (i := 3) (j := 3) (by decide) (by decide), ald_s g1 (i := 4) (j := 4) (by decide) (by decide), ald_s g1 (i := 5) (j := 5) (by decide) (by decide), ald_s g1 (i := 6) (j := 6) (by decide) (by decide), show (0 : Int32) + 1 = 1 from rfl, show (0 : Int32) + 2 = 2 from rfl, show (0 : Int32) + 3 = 3 from rfl, show (0 : Int32) + 4 = 4 from rfl, show (0 : Int32) + 5 = 5 from rfl, show (0 : Int32) + 6 = 6 from rfl, qMC_det e1, qMC_det e2, hm1, hm2, lg_self, eq_self, ↓reduceIte, qg_7, qg_8, qg_9, qg_10, qg_11, not_true_eq_false, not_false_eq_true, Nat.reduceBEq, Bool.false_eq_true, Nat.reduceMul, qg_0, qg_1, qg_2, qg_3, qg_4, qg_5, qg_6, ex1, ex3, ex4, qfit_i, qfit_l, qfit_r, qfit_n, qfit_b0, qfit_b1, qcat_i, qcat_r, qcat_n, qcat_l, qroom_0, qroom_c, List.map_cons, List.map_nil, List.sum_cons, List.sum_nil, Nat.reduceAdd, Nat.reduceLT, Nat.reduceLeDiff, Nat.reduceEqDiff, Nat.reduceSub, decide_true, true_and, and_true, and_self, if_true, if_false, Option.toList_some, Option.toList_none, List.cons_append, List.nil_append, qput_mk, qiast_mk, qup_at, exF, qnF0, qnF1, qnF2, qnF3, qnF4, qnF5, qnF6, qnF7, qnF8, qnF9, qnF10, qnF11]
  exact hend
set_option maxRecDepth 100000 in
set_option maxHeartbeats 8000000 in
theorem law_32 {f : Nat → qC} {xs : Nat → Int32} (h0 : f 0 = .inl (0, 7, .inl xs)) : ∃ h2, qEv 1000 3 qk_318 1315 [some (.ref 0), some (.ref 16), some (.ref 55), some (.int 0)] [] (hF f, 97, 78870) (some (.int 1), h2) ∧ h2.2 = (97, 78870) := by
  have hp : ∃ v, prI 165 280 [.int (xs 1)] (991 + 9) 78870 f v := pa_where
  obtain ⟨v, h1, e1, h2, e2, e3⟩ := hp
  have e1 : qMC 1000 165 [.ref 16, .int (xs 1)] (hF f, 97, 78870) (some (.int v), h1) := e1
  have e2 : qMC 1000 280 [.ref 55, .int (xs 1)] h1 (some (.int v), h2) := e2
  have k1 := e1.keep
  have k2 := e2.keep
  have g0 : hF f 0 = .inl (0, 7, .inl xs) := (hF_lo (by omega)).trans h0
  have g1 : h1.1 0 = .inl (0, 7, .inl xs) := (k1.2.2.2 (show 16 ≤ 97 by decide) 0 (by omega)).trans g0
  have g2 : h2.1 0 = .inl (0, 7, .inl xs) := (k2.2.2.2 (Nat.le_trans (show 16 ≤ 97 by decide) k1.1) 0 (by omega)).trans g1
  have hm1 : (55 < h1.2.1) = True := eq_true (Nat.lt_of_lt_of_le (show 55 < 97 by decide) k1.1)
  have hm2 : (∃ F, h1.1 55 = .inr (11, F)) = True := eq_true (k1.obj (show 55 < 97 by decide) (hF_55 (f := f)))
  have hend := law_last g2
  refine ⟨h2, ?_, e3⟩
  obtain ⟨h1f, h1n, h1s⟩ := h1
  simp only [e318_1315, e318_1316, e318_1317, e318_1318, e318_1319, e318_1320, e318_1321, e318_1324, e318_1325, e318_1326, e318_1327, e318_1328, e318_1329, e318_1330, e318_1333, e318_1336, e318_1337, hF_16, hF_55, ald_s g0 (i := 1) (j := 1) (by decide) (by decide), ald_s g0 (i := 2) (j := 2) (by decide) (by decide), ald_s g0 (i := 3) (j := 3) (by decide) (by decide), ald_s g0 (i := 4) (j := 4) (by decide) (by decide), ald_s g0 (i := 5) (j := 5) (by decide) (by decide), ald_s g0 (i := 6) (j := 6) (by decide) (by decide), ald_s g1 (i := 1) (j := 1) (by decide) (by decide), ald_s g1 (i := 2) (j := 2) (by decide) (by decide), ald_s g1 (i := 3) (j := 3) (by decide) (by decide), ald_s g1 (i := 4) (j := 4) (by decide) (by decide), ald_s g1 (i := 5) (j := 5) (by decide) (by decide), ald_s g1 (i := 6) (j := 6) (by decide) (by decide), show (0 : Int32) + 1 = 1 from rfl, show (0 : Int32) + 2 = 2 from rfl, show (0 : Int32) + 3 = 3 from rfl, show (0 : Int32) + 4 = 4 from rfl, show (0 : Int32) + 5 = 5 from rfl, show (0 : Int32) + 6 = 6 from rfl, qMC_det e1, qMC_det e2, hm1, hm2, lg_self, eq_self, ↓reduceIte, qg_7, qg_8, qg_9, qg_10, qg_11, not_true_eq_false, not_false_eq_true, Nat.reduceBEq, Bool.false_eq_true, Nat.reduceMul, qg_0, qg_1, qg_2, qg_3, qg_4, qg_5, qg_6, ex1, ex3, ex4, qfit_i, qfit_l, qfit_r, qfit_n, qfit_b0, qfit_b1, qcat_i, qcat_r, qcat_n, qcat_l, qroom_0, qroom_c, List.map_cons, List.map_nil, List.sum_cons, List.sum_nil, Nat.reduceAdd, Nat.reduceLT, Nat.reduceLeDiff, Nat.reduceEqDiff, Nat.reduceSub, decide_true, true_and, and_true, and_self, if_true, if_false, Option.toList_some, Option.toList_none, List.cons_append, List.nil_append, qput_mk, qiast_mk, qup_at, exF, qnF0, qnF1, qnF2, qnF3, qnF4, qnF5, qnF6, qnF7, qnF8, qnF9, qnF10, qnF11]
  exact hend
set_option maxRecDepth 100000 in
set_option maxHeartbeats 8000000 in
theorem law_33 {f : Nat → qC} {xs : Nat → Int32} (h0 : f 0 = .inl (0, 7, .inl xs)) : ∃ h2, qEv 1000 3 qk_318 1338 [some (.ref 0), some (.ref 16), some (.ref 55), some (.int 0)] [] (hF f, 97, 78870) (some (.int 1), h2) ∧ h2.2 = (97, 78870) := by
  have hp : ∃ v, prI 166 281 [.int (xs 1)] (991 + 9) 78870 f v := pa_parted
  obtain ⟨v, h1, e1, h2, e2, e3⟩ := hp
  have e1 : qMC 1000 166 [.ref 16, .int (xs 1)] (hF f, 97, 78870) (some (.int v), h1) := e1
  have e2 : qMC 1000 281 [.ref 55, .int (xs 1)] h1 (some (.int v), h2) := e2
  have k1 := e1.keep
  have k2 := e2.keep
  have g0 : hF f 0 = .inl (0, 7, .inl xs) := (hF_lo (by omega)).trans h0
  have g1 : h1.1 0 = .inl (0, 7, .inl xs) := (k1.2.2.2 (show 16 ≤ 97 by decide) 0 (by omega)).trans g0
  have g2 : h2.1 0 = .inl (0, 7, .inl xs) := (k2.2.2.2 (Nat.le_trans (show 16 ≤ 97 by decide) k1.1) 0 (by omega)).trans g1
  have hm1 : (55 < h1.2.1) = True := eq_true (Nat.lt_of_lt_of_le (show 55 < 97 by decide) k1.1)
  have hm2 : (∃ F, h1.1 55 = .inr (11, F)) = True := eq_true (k1.obj (show 55 < 97 by decide) (hF_55 (f := f)))
  have hend := law_last g2
  refine ⟨h2, ?_, e3⟩
  obtain ⟨h1f, h1n, h1s⟩ := h1
  simp only [e318_1338, e318_1339, e318_1340, e318_1341, e318_1342, e318_1343, e318_1344, e318_1347, e318_1348, e318_1349, e318_1350, e318_1351, e318_1352, e318_1353, e318_1356, e318_1359, e318_1360, hF_16, hF_55, ald_s g0 (i := 1) (j := 1) (by decide) (by decide), ald_s g0 (i := 2) (j := 2) (by decide) (by decide), ald_s g0 (i := 3) (j := 3) (by decide) (by decide), ald_s g0 (i := 4) (j := 4) (by decide) (by decide), ald_s g0 (i := 5) (j := 5) (by decide) (by decide), ald_s g0 (i := 6) (j := 6) (by decide) (by decide), ald_s g1 (i := 1) (j := 1) (by decide) (by decide), ald_s g1 (i := 2) (j := 2) (by decide) (by decide), ald_s g1 (i := 3) (j := 3) (by decide) (by decide), ald_s g1 (i := 4) (j := 4) (by decide) (by decide), ald_s g1 (i := 5) (j := 5) (by decide) (by decide), ald_s g1 (i := 6) (j := 6) (by decide) (by decide), show (0 : Int32) + 1 = 1 from rfl, show (0 : Int32) + 2 = 2 from rfl, show (0 : Int32) + 3 = 3 from rfl, show (0 : Int32) + 4 = 4 from rfl, show (0 : Int32) + 5 = 5 from rfl, show (0 : Int32) + 6 = 6 from rfl, qMC_det e1, qMC_det e2, hm1, hm2, lg_self, eq_self, ↓reduceIte, qg_7, qg_8, qg_9, qg_10, qg_11, not_true_eq_false, not_false_eq_true, Nat.reduceBEq, Bool.false_eq_true, Nat.reduceMul, qg_0, qg_1, qg_2, qg_3, qg_4, qg_5, qg_6, ex1, ex3, ex4, qfit_i, qfit_l, qfit_r, qfit_n, qfit_b0, qfit_b1, qcat_i, qcat_r, qcat_n, qcat_l, qroom_0, qroom_c, List.map_cons, List.map_nil, List.sum_cons, List.sum_nil, Nat.reduceAdd, Nat.reduceLT, Nat.reduceLeDiff, Nat.reduceEqDiff, Nat.reduceSub, decide_true, true_and, and_true, and_self, if_true, if_false, Option.toList_some, Option.toList_none, List.cons_append, List.nil_append, qput_mk, qiast_mk, qup_at, exF, qnF0, qnF1, qnF2, qnF3, qnF4, qnF5, qnF6, qnF7, qnF8, qnF9, qnF10, qnF11]
  exact hend
set_option maxRecDepth 100000 in
set_option maxHeartbeats 8000000 in
theorem law_34 {f : Nat → qC} {xs : Nat → Int32} (h0 : f 0 = .inl (0, 7, .inl xs)) : ∃ h2, qEv 1000 3 qk_318 1361 [some (.ref 0), some (.ref 16), some (.ref 55), some (.int 0)] [] (hF f, 97, 78870) (some (.int 1), h2) ∧ h2.2 = (97, 78870) := by
  have hp : ∃ v, prI 167 282 [.int (xs 1), .int (xs 2)] (991 + 9) 78870 f v := pa_holds
  obtain ⟨v, h1, e1, h2, e2, e3⟩ := hp
  have e1 : qMC 1000 167 [.ref 16, .int (xs 1), .int (xs 2)] (hF f, 97, 78870) (some (.int v), h1) := e1
  have e2 : qMC 1000 282 [.ref 55, .int (xs 1), .int (xs 2)] h1 (some (.int v), h2) := e2
  have k1 := e1.keep
  have k2 := e2.keep
  have g0 : hF f 0 = .inl (0, 7, .inl xs) := (hF_lo (by omega)).trans h0
  have g1 : h1.1 0 = .inl (0, 7, .inl xs) := (k1.2.2.2 (show 16 ≤ 97 by decide) 0 (by omega)).trans g0
  have g2 : h2.1 0 = .inl (0, 7, .inl xs) := (k2.2.2.2 (Nat.le_trans (show 16 ≤ 97 by decide) k1.1) 0 (by omega)).trans g1
  have hm1 : (55 < h1.2.1) = True := eq_true (Nat.lt_of_lt_of_le (show 55 < 97 by decide) k1.1)
  have hm2 : (∃ F, h1.1 55 = .inr (11, F)) = True := eq_true (k1.obj (show 55 < 97 by decide) (hF_55 (f := f)))
  have hend := law_last g2
  refine ⟨h2, ?_, e3⟩
  obtain ⟨h1f, h1n, h1s⟩ := h1
  simp only [e318_1361, e318_1362, e318_1363, e318_1364, e318_1365, e318_1366, e318_1367, e318_1368, e318_1369, e318_1370, e318_1371, e318_1372, e318_1375, e318_1376, e318_1377, e318_1378, e318_1379, e318_1380, e318_1381, e318_1382, e318_1383, e318_1384, e318_1385, e318_1386, e318_1389, e318_1392, e318_1393, hF_16, hF_55, ald_s g0 (i := 1) (j := 1) (by decide) (by decide), ald_s g0 (i := 2) (j := 2) (by decide) (by decide), ald_s g0 (i := 3) (j := 3) (by decide) (by decide), ald_s g0 (i := 4) (j := 4) (by decide) (by decide), ald_s g0 (i := 5) (j := 5) (by decide) (by decide), ald_s g0 (i := 6) (j := 6) (by decide) (by decide), ald_s g1 (i := 1) (j := 1) (by decide) (by decide), ald_s g1 (i := 2) (j := 2) (by decide) (by decide), ald_s g1 (i := 3) (j := 3) (by decide) (by decide), ald_s g1 (i := 4) (j := 4) (by decide) (by decide), ald_s g1 (i := 5) (j := 5) (by decide) (by decide), ald_s g1 (i := 6) (j := 6) (by decide) (by decide), show (0 : Int32) + 1 = 1 from rfl, show (0 : Int32) + 2 = 2 from rfl, show (0 : Int32) + 3 = 3 from rfl, show (0 : Int32) + 4 = 4 from rfl, show (0 : Int32) + 5 = 5 from rfl, show (0 : Int32) + 6 = 6 from rfl, qMC_det e1, qMC_det e2, hm1, hm2, lg_self, eq_self, ↓reduceIte, qg_7, qg_8, qg_9, qg_10, qg_11, not_true_eq_false, not_false_eq_true, Nat.reduceBEq, Bool.false_eq_true, Nat.reduceMul, qg_0, qg_1, qg_2, qg_3, qg_4, qg_5, qg_6, ex1, ex3, ex4, qfit_i, qfit_l, qfit_r, qfit_n, qfit_b0, qfit_b1, qcat_i, qcat_r, qcat_n, qcat_l, qroom_0, qroom_c, List.map_cons, List.map_nil, List.sum_cons, List.sum_nil, Nat.reduceAdd, Nat.reduceLT, Nat.reduceLeDiff, Nat.reduceEqDiff, Nat.reduceSub, decide_true, true_and, and_true, and_self, if_true, if_false, Option.toList_some, Option.toList_none, List.cons_append, List.nil_append, qput_mk, qiast_mk, qup_at, exF, qnF0, qnF1, qnF2, qnF3, qnF4, qnF5, qnF6, qnF7, qnF8, qnF9, qnF10, qnF11]
  exact hend
set_option maxRecDepth 100000 in
set_option maxHeartbeats 8000000 in
theorem law_35 {f : Nat → qC} {xs : Nat → Int32} (h0 : f 0 = .inl (0, 7, .inl xs)) : ∃ h2, qEv 1000 3 qk_318 1394 [some (.ref 0), some (.ref 16), some (.ref 55), some (.int 0)] [] (hF f, 97, 78870) (some (.int 1), h2) ∧ h2.2 = (97, 78870) := by
  have hp : ∃ v, prL 168 288 [.int (xs 1)] (991 + 9) 78870 f v := pa_size
  obtain ⟨v, h1, e1, h2, e2, e3⟩ := hp
  have e1 : qMC 1000 168 [.ref 16, .int (xs 1)] (hF f, 97, 78870) (some (.long v), h1) := e1
  have e2 : qMC 1000 288 [.ref 55, .int (xs 1)] h1 (some (.long v), h2) := e2
  have k1 := e1.keep
  have k2 := e2.keep
  have g0 : hF f 0 = .inl (0, 7, .inl xs) := (hF_lo (by omega)).trans h0
  have g1 : h1.1 0 = .inl (0, 7, .inl xs) := (k1.2.2.2 (show 16 ≤ 97 by decide) 0 (by omega)).trans g0
  have g2 : h2.1 0 = .inl (0, 7, .inl xs) := (k2.2.2.2 (Nat.le_trans (show 16 ≤ 97 by decide) k1.1) 0 (by omega)).trans g1
  have hm1 : (55 < h1.2.1) = True := eq_true (Nat.lt_of_lt_of_le (show 55 < 97 by decide) k1.1)
  have hm2 : (∃ F, h1.1 55 = .inr (11, F)) = True := eq_true (k1.obj (show 55 < 97 by decide) (hF_55 (f := f)))
  have hend := law_last g2
  refine ⟨h2, ?_, e3⟩
  obtain ⟨h1f, h1n, h1s⟩ := h1
  simp only [e318_1394, e318_1395, e318_1396, e318_1397, e318_1398, e318_1399, e318_1400, e318_1403, e318_1404, e318_1405, e318_1406, e318_1407, e318_1408, e318_1409, e318_1412, e318_1413, e318_1416, e318_1417, hF_16, hF_55, ald_s g0 (i := 1) (j := 1) (by decide) (by decide), ald_s g0 (i := 2) (j := 2) (by decide) (by decide), ald_s g0 (i := 3) (j := 3) (by decide) (by decide), ald_s g0 (i := 4) (j := 4) (by decide) (by decide), ald_s g0 (i := 5) (j := 5) (by decide) (by decide), ald_s g0 (i := 6) (j := 6) (by decide) (by decide), ald_s g1 (i := 1) (j := 1) (by decide) (by decide), ald_s g1 (i := 2) (j := 2) (by decide) (by decide), ald_s g1 (i := 3) (j := 3) (by decide) (by decide), ald_s g1 (i := 4) (j := 4) (by decide) (by decide), ald_s g1 (i := 5) (j := 5) (by decide) (by decide), ald_s g1 (i := 6) (j := 6) (by decide) (by decide), show (0 : Int32) + 1 = 1 from rfl, show (0 : Int32) + 2 = 2 from rfl, show (0 : Int32) + 3 = 3 from rfl, show (0 : Int32) + 4 = 4 from rfl, show (0 : Int32) + 5 = 5 from rfl, show (0 : Int32) + 6 = 6 from rfl, qMC_det e1, qMC_det e2, hm1, hm2, lg_self, eq_self, ↓reduceIte, qg_7, qg_8, qg_9, qg_10, qg_11, not_true_eq_false, not_false_eq_true, Nat.reduceBEq, Bool.false_eq_true, Nat.reduceMul, qg_0, qg_1, qg_2, qg_3, qg_4, qg_5, qg_6, ex1, ex3, ex4, qfit_i, qfit_l, qfit_r, qfit_n, qfit_b0, qfit_b1, qcat_i, qcat_r, qcat_n, qcat_l, qroom_0, qroom_c, List.map_cons, List.map_nil, List.sum_cons, List.sum_nil, Nat.reduceAdd, Nat.reduceLT, Nat.reduceLeDiff, Nat.reduceEqDiff, Nat.reduceSub, decide_true, true_and, and_true, and_self, if_true, if_false, Option.toList_some, Option.toList_none, List.cons_append, List.nil_append, qput_mk, qiast_mk, qup_at, exF, qnF0, qnF1, qnF2, qnF3, qnF4, qnF5, qnF6, qnF7, qnF8, qnF9, qnF10, qnF11]
  exact hend
set_option maxRecDepth 100000 in
set_option maxHeartbeats 8000000 in
theorem law_36 {f : Nat → qC} {xs : Nat → Int32} (h0 : f 0 = .inl (0, 7, .inl xs)) : ∃ h2, qEv 1000 3 qk_318 1418 [some (.ref 0), some (.ref 16), some (.ref 55), some (.int 0)] [] (hF f, 97, 78870) (some (.int 1), h2) ∧ h2.2 = (97, 78870) := by
  have hp : ∃ v, prL 169 289 [.int (xs 1), .int (xs 2), .int (xs 3)] (991 + 9) 78870 f v := pa_piece
  obtain ⟨v, h1, e1, h2, e2, e3⟩ := hp
  have e1 : qMC 1000 169 [.ref 16, .int (xs 1), .int (xs 2), .int (xs 3)] (hF f, 97, 78870) (some (.long v), h1) := e1
  have e2 : qMC 1000 289 [.ref 55, .int (xs 1), .int (xs 2), .int (xs 3)] h1 (some (.long v), h2) := e2
  have k1 := e1.keep
  have k2 := e2.keep
  have g0 : hF f 0 = .inl (0, 7, .inl xs) := (hF_lo (by omega)).trans h0
  have g1 : h1.1 0 = .inl (0, 7, .inl xs) := (k1.2.2.2 (show 16 ≤ 97 by decide) 0 (by omega)).trans g0
  have g2 : h2.1 0 = .inl (0, 7, .inl xs) := (k2.2.2.2 (Nat.le_trans (show 16 ≤ 97 by decide) k1.1) 0 (by omega)).trans g1
  have hm1 : (55 < h1.2.1) = True := eq_true (Nat.lt_of_lt_of_le (show 55 < 97 by decide) k1.1)
  have hm2 : (∃ F, h1.1 55 = .inr (11, F)) = True := eq_true (k1.obj (show 55 < 97 by decide) (hF_55 (f := f)))
  have hend := law_last g2
  refine ⟨h2, ?_, e3⟩
  obtain ⟨h1f, h1n, h1s⟩ := h1
  simp only [e318_1418, e318_1419, e318_1420, e318_1421, e318_1422, e318_1423, e318_1424, e318_1425, e318_1426, e318_1427, e318_1428, e318_1429, e318_1430, e318_1431, e318_1432, e318_1433, e318_1434, e318_1437, e318_1438, e318_1439, e318_1440, e318_1441, e318_1442, e318_1443, e318_1444, e318_1445, e318_1446, e318_1447, e318_1448, e318_1449, e318_1450, e318_1451, e318_1452, e318_1453, e318_1456, e318_1457, e318_1460, e318_1461, hF_16, hF_55, ald_s g0 (i := 1) (j := 1) (by decide) (by decide), ald_s g0 (i := 2) (j := 2) (by decide) (by decide), ald_s g0 (i := 3) (j := 3) (by decide) (by decide), ald_s g0 (i := 4) (j := 4) (by decide) (by decide), ald_s g0 (i := 5) (j := 5) (by decide) (by decide), ald_s g0 (i := 6) (j := 6) (by decide) (by decide), ald_s g1 (i := 1) (j := 1) (by decide) (by decide), ald_s g1 (i := 2) (j := 2) (by decide) (by decide), ald_s g1 (i := 3) (j := 3) (by decide) (by decide), ald_s g1 (i := 4) (j := 4) (by decide) (by decide), ald_s g1 (i := 5) (j := 5) (by decide) (by decide), ald_s g1 (i := 6) (j := 6) (by decide) (by decide), show (0 : Int32) + 1 = 1 from rfl, show (0 : Int32) + 2 = 2 from rfl, show (0 : Int32) + 3 = 3 from rfl, show (0 : Int32) + 4 = 4 from rfl, show (0 : Int32) + 5 = 5 from rfl, show (0 : Int32) + 6 = 6 from rfl, qMC_det e1, qMC_det e2, hm1, hm2, lg_self, eq_self, ↓reduceIte, qg_7, qg_8, qg_9, qg_10, qg_11, not_true_eq_false, not_false_eq_true, Nat.reduceBEq, Bool.false_eq_true, Nat.reduceMul, qg_0, qg_1, qg_2, qg_3, qg_4, qg_5, qg_6, ex1, ex3, ex4, qfit_i, qfit_l, qfit_r, qfit_n, qfit_b0, qfit_b1, qcat_i, qcat_r, qcat_n, qcat_l, qroom_0, qroom_c, List.map_cons, List.map_nil, List.sum_cons, List.sum_nil, Nat.reduceAdd, Nat.reduceLT, Nat.reduceLeDiff, Nat.reduceEqDiff, Nat.reduceSub, decide_true, true_and, and_true, and_self, if_true, if_false, Option.toList_some, Option.toList_none, List.cons_append, List.nil_append, qput_mk, qiast_mk, qup_at, exF, qnF0, qnF1, qnF2, qnF3, qnF4, qnF5, qnF6, qnF7, qnF8, qnF9, qnF10, qnF11]
  exact hend
set_option maxRecDepth 100000 in
set_option maxHeartbeats 8000000 in
theorem law_37 {f : Nat → qC} {xs : Nat → Int32} (h0 : f 0 = .inl (0, 7, .inl xs)) : ∃ h2, qEv 1000 3 qk_318 1462 [some (.ref 0), some (.ref 16), some (.ref 55), some (.int 0)] [] (hF f, 97, 78870) (some (.int 1), h2) ∧ h2.2 = (97, 78870) := by
  have hp : ∃ v, prI 170 290 [.int (xs 1), .int (xs 2), .int (xs 3)] (991 + 9) 78870 f v := pa_whole
  obtain ⟨v, h1, e1, h2, e2, e3⟩ := hp
  have e1 : qMC 1000 170 [.ref 16, .int (xs 1), .int (xs 2), .int (xs 3)] (hF f, 97, 78870) (some (.int v), h1) := e1
  have e2 : qMC 1000 290 [.ref 55, .int (xs 1), .int (xs 2), .int (xs 3)] h1 (some (.int v), h2) := e2
  have k1 := e1.keep
  have k2 := e2.keep
  have g0 : hF f 0 = .inl (0, 7, .inl xs) := (hF_lo (by omega)).trans h0
  have g1 : h1.1 0 = .inl (0, 7, .inl xs) := (k1.2.2.2 (show 16 ≤ 97 by decide) 0 (by omega)).trans g0
  have g2 : h2.1 0 = .inl (0, 7, .inl xs) := (k2.2.2.2 (Nat.le_trans (show 16 ≤ 97 by decide) k1.1) 0 (by omega)).trans g1
  have hm1 : (55 < h1.2.1) = True := eq_true (Nat.lt_of_lt_of_le (show 55 < 97 by decide) k1.1)
  have hm2 : (∃ F, h1.1 55 = .inr (11, F)) = True := eq_true (k1.obj (show 55 < 97 by decide) (hF_55 (f := f)))
  have hend := law_last g2
  refine ⟨h2, ?_, e3⟩
  obtain ⟨h1f, h1n, h1s⟩ := h1
  simp only [e318_1462, e318_1463, e318_1464, e318_1465, e318_1466, e318_1467, e318_1468, e318_1469, e318_1470, e318_1471, e318_1472, e318_1473, e318_1474, e318_1475, e318_1476, e318_1477, e318_1478, e318_1481, e318_1482, e318_1483, e318_1484, e318_1485, e318_1486, e318_1487, e318_1488, e318_1489, e318_1490, e318_1491, e318_1492, e318_1493, e318_1494, e318_1495, e318_1496, e318_1497, e318_1500, e318_1503, e318_1504, hF_16, hF_55, ald_s g0 (i := 1) (j := 1) (by decide) (by decide), ald_s g0 (i := 2) (j := 2) (by decide) (by decide), ald_s g0 (i := 3) (j := 3) (by decide) (by decide), ald_s g0 (i := 4) (j := 4) (by decide) (by decide), ald_s g0 (i := 5) (j := 5) (by decide) (by decide), ald_s g0 (i := 6) (j := 6) (by decide) (by decide), ald_s g1 (i := 1) (j := 1) (by decide) (by decide), ald_s g1 (i := 2) (j := 2) (by decide) (by decide), ald_s g1 (i := 3) (j := 3) (by decide) (by decide), ald_s g1 (i := 4) (j := 4) (by decide) (by decide), ald_s g1 (i := 5) (j := 5) (by decide) (by decide), ald_s g1 (i := 6) (j := 6) (by decide) (by decide), show (0 : Int32) + 1 = 1 from rfl, show (0 : Int32) + 2 = 2 from rfl, show (0 : Int32) + 3 = 3 from rfl, show (0 : Int32) + 4 = 4 from rfl, show (0 : Int32) + 5 = 5 from rfl, show (0 : Int32) + 6 = 6 from rfl, qMC_det e1, qMC_det e2, hm1, hm2, lg_self, eq_self, ↓reduceIte, qg_7, qg_8, qg_9, qg_10, qg_11, not_true_eq_false, not_false_eq_true, Nat.reduceBEq, Bool.false_eq_true, Nat.reduceMul, qg_0, qg_1, qg_2, qg_3, qg_4, qg_5, qg_6, ex1, ex3, ex4, qfit_i, qfit_l, qfit_r, qfit_n, qfit_b0, qfit_b1, qcat_i, qcat_r, qcat_n, qcat_l, qroom_0, qroom_c, List.map_cons, List.map_nil, List.sum_cons, List.sum_nil, Nat.reduceAdd, Nat.reduceLT, Nat.reduceLeDiff, Nat.reduceEqDiff, Nat.reduceSub, decide_true, true_and, and_true, and_self, if_true, if_false, Option.toList_some, Option.toList_none, List.cons_append, List.nil_append, qput_mk, qiast_mk, qup_at, exF, qnF0, qnF1, qnF2, qnF3, qnF4, qnF5, qnF6, qnF7, qnF8, qnF9, qnF10, qnF11]
  exact hend
set_option maxRecDepth 100000 in
set_option maxHeartbeats 8000000 in
theorem law_38 {f : Nat → qC} {xs : Nat → Int32} (h0 : f 0 = .inl (0, 7, .inl xs)) : ∃ h2, qEv 1000 3 qk_318 1505 [some (.ref 0), some (.ref 16), some (.ref 55), some (.int 0)] [] (hF f, 97, 78870) (some (.int 1), h2) ∧ h2.2 = (97, 78870) := by
  have hp : ∃ v, prI 171 291 [.int (xs 1), .long ((xs 2).toInt64 <<< ((32 : Int32).toInt64 &&& 63) ||| (xs 3).toInt64 &&& 4294967295)] (991 + 9) 78870 f v := pa_feed
  obtain ⟨v, h1, e1, h2, e2, e3⟩ := hp
  have e1 : qMC 1000 171 [.ref 16, .int (xs 1), .long ((xs 2).toInt64 <<< ((32 : Int32).toInt64 &&& 63) ||| (xs 3).toInt64 &&& 4294967295)] (hF f, 97, 78870) (some (.int v), h1) := e1
  have e2 : qMC 1000 291 [.ref 55, .int (xs 1), .long ((xs 2).toInt64 <<< ((32 : Int32).toInt64 &&& 63) ||| (xs 3).toInt64 &&& 4294967295)] h1 (some (.int v), h2) := e2
  have k1 := e1.keep
  have k2 := e2.keep
  have g0 : hF f 0 = .inl (0, 7, .inl xs) := (hF_lo (by omega)).trans h0
  have g1 : h1.1 0 = .inl (0, 7, .inl xs) := (k1.2.2.2 (show 16 ≤ 97 by decide) 0 (by omega)).trans g0
  have g2 : h2.1 0 = .inl (0, 7, .inl xs) := (k2.2.2.2 (Nat.le_trans (show 16 ≤ 97 by decide) k1.1) 0 (by omega)).trans g1
  have hm1 : (55 < h1.2.1) = True := eq_true (Nat.lt_of_lt_of_le (show 55 < 97 by decide) k1.1)
  have hm2 : (∃ F, h1.1 55 = .inr (11, F)) = True := eq_true (k1.obj (show 55 < 97 by decide) (hF_55 (f := f)))
  have hend := law_last g2
  refine ⟨h2, ?_, e3⟩
  obtain ⟨h1f, h1n, h1s⟩ := h1
  simp only [e318_1505, e318_1506, e318_1507, e318_1508, e318_1509, e318_1510, e318_1511, e318_1512, e318_1513, e318_1514, e318_1515, e318_1516, e318_1517, e318_1519, e318_1520, e318_1521, e318_1522, e318_1523, e318_1524, e318_1525, e318_1526, e318_1529, e318_1530, e318_1531, e318_1534, e318_1535, e318_1536, e318_1537, e318_1538, e318_1539, e318_1540, e318_1541, e318_1542, e318_1543, e318_1544, e318_1545, e318_1546, e318_1548, e318_1549, e318_1550, e318_1551, e318_1552, e318_1553, e318_1554, e318_1555, e318_1558, e318_1559, e318_1560, e318_1563, e318_1566, e318_1567, hF_16, hF_55, ald_s g0 (i := 1) (j := 1) (by decide) (by decide), ald_s g0 (i := 2) (j := 2) (by decide) (by decide), ald_s g0 (i := 3) (j := 3) (by decide) (by decide), ald_s g0 (i := 4) (j := 4) (by decide) (by decide), ald_s g0 (i := 5) (j := 5) (by decide) (by decide), ald_s g0 (i := 6) (j := 6) (by decide) (by decide), ald_s g1 (i := 1) (j := 1) (by decide) (by decide), ald_s g1 (i := 2) (j := 2) (by decide) (by decide), ald_s g1 (i := 3) (j := 3) (by decide) (by decide), ald_s g1 (i := 4) (j := 4) (by decide) (by decide), ald_s g1 (i := 5) (j := 5) (by decide) (by decide), ald_s g1 (i := 6) (j := 6) (by decide) (by decide), show (0 : Int32) + 1 = 1 from rfl, show (0 : Int32) + 2 = 2 from rfl, show (0 : Int32) + 3 = 3 from rfl, show (0 : Int32) + 4 = 4 from rfl, show (0 : Int32) + 5 = 5 from rfl, show (0 : Int32) + 6 = 6 from rfl, qMC_det e1, qMC_det e2, hm1, hm2, lg_self, eq_self, ↓reduceIte, qg_7, qg_8, qg_9, qg_10, qg_11, not_true_eq_false, not_false_eq_true, Nat.reduceBEq, Bool.false_eq_true, Nat.reduceMul, qg_0, qg_1, qg_2, qg_3, qg_4, qg_5, qg_6, ex1, ex3, ex4, qfit_i, qfit_l, qfit_r, qfit_n, qfit_b0, qfit_b1, qcat_i, qcat_r, qcat_n, qcat_l, qroom_0, qroom_c, List.map_cons, List.map_nil, List.sum_cons, List.sum_nil, Nat.reduceAdd, Nat.reduceLT, Nat.reduceLeDiff, Nat.reduceEqDiff, Nat.reduceSub, decide_true, true_and, and_true, and_self, if_true, if_false, Option.toList_some, Option.toList_none, List.cons_append, List.nil_append, qput_mk, qiast_mk, qup_at, exF, qnF0, qnF1, qnF2, qnF3, qnF4, qnF5, qnF6, qnF7, qnF8, qnF9, qnF10, qnF11]
  exact hend
set_option maxRecDepth 100000 in
set_option maxHeartbeats 8000000 in
theorem law_39 {f : Nat → qC} {xs : Nat → Int32} (h0 : f 0 = .inl (0, 7, .inl xs)) : ∃ h2, qEv 1000 3 qk_318 1568 [some (.ref 0), some (.ref 16), some (.ref 55), some (.int 0)] [] (hF f, 97, 78870) (some (.int 1), h2) ∧ h2.2 = (97, 78870) := by
  have hp : ∃ v, prI 172 304 [] (991 + 9) 78870 f v := pa_read
  obtain ⟨v, h1, e1, h2, e2, e3⟩ := hp
  have e1 : qMC 1000 172 [.ref 16] (hF f, 97, 78870) (some (.int v), h1) := e1
  have e2 : qMC 1000 304 [.ref 55] h1 (some (.int v), h2) := e2
  have k1 := e1.keep
  have k2 := e2.keep
  have g0 : hF f 0 = .inl (0, 7, .inl xs) := (hF_lo (by omega)).trans h0
  have g1 : h1.1 0 = .inl (0, 7, .inl xs) := (k1.2.2.2 (show 16 ≤ 97 by decide) 0 (by omega)).trans g0
  have g2 : h2.1 0 = .inl (0, 7, .inl xs) := (k2.2.2.2 (Nat.le_trans (show 16 ≤ 97 by decide) k1.1) 0 (by omega)).trans g1
  have hm1 : (55 < h1.2.1) = True := eq_true (Nat.lt_of_lt_of_le (show 55 < 97 by decide) k1.1)
  have hm2 : (∃ F, h1.1 55 = .inr (11, F)) = True := eq_true (k1.obj (show 55 < 97 by decide) (hF_55 (f := f)))
  have hend := law_last g2
  refine ⟨h2, ?_, e3⟩
  obtain ⟨h1f, h1n, h1s⟩ := h1
  simp only [e318_1568, e318_1569, e318_1572, e318_1573, e318_1576, e318_1579, e318_1580, hF_16, hF_55, ald_s g0 (i := 1) (j := 1) (by decide) (by decide), ald_s g0 (i := 2) (j := 2) (by decide) (by decide), ald_s g0 (i := 3) (j := 3) (by decide) (by decide), ald_s g0 (i := 4) (j := 4) (by decide) (by decide), ald_s g0 (i := 5) (j := 5) (by decide) (by decide), ald_s g0 (i := 6) (j := 6) (by decide) (by decide), ald_s g1 (i := 1) (j := 1) (by decide) (by decide), ald_s g1 (i := 2) (j := 2) (by decide) (by decide), ald_s g1 (i := 3) (j := 3) (by decide) (by decide), ald_s g1 (i := 4) (j := 4) (by decide) (by decide), ald_s g1 (i := 5) (j := 5) (by decide) (by decide), ald_s g1 (i := 6) (j := 6) (by decide) (by decide), show (0 : Int32) + 1 = 1 from rfl, show (0 : Int32) + 2 = 2 from rfl, show (0 : Int32) + 3 = 3 from rfl, show (0 : Int32) + 4 = 4 from rfl, show (0 : Int32) + 5 = 5 from rfl, show (0 : Int32) + 6 = 6 from rfl, qMC_det e1, qMC_det e2, hm1, hm2, lg_self, eq_self, ↓reduceIte, qg_7, qg_8, qg_9, qg_10, qg_11, not_true_eq_false, not_false_eq_true, Nat.reduceBEq, Bool.false_eq_true, Nat.reduceMul, qg_0, qg_1, qg_2, qg_3, qg_4, qg_5, qg_6, ex1, ex3, ex4, qfit_i, qfit_l, qfit_r, qfit_n, qfit_b0, qfit_b1, qcat_i, qcat_r, qcat_n, qcat_l, qroom_0, qroom_c, List.map_cons, List.map_nil, List.sum_cons, List.sum_nil, Nat.reduceAdd, Nat.reduceLT, Nat.reduceLeDiff, Nat.reduceEqDiff, Nat.reduceSub, decide_true, true_and, and_true, and_self, if_true, if_false, Option.toList_some, Option.toList_none, List.cons_append, List.nil_append, qput_mk, qiast_mk, qup_at, exF, qnF0, qnF1, qnF2, qnF3, qnF4, qnF5, qnF6, qnF7, qnF8, qnF9, qnF10, qnF11]
  exact hend
set_option maxRecDepth 100000 in
set_option maxHeartbeats 8000000 in
theorem law_40 {f : Nat → qC} {xs : Nat → Int32} (h0 : f 0 = .inl (0, 7, .inl xs)) : ∃ h2, qEv 1000 3 qk_318 1581 [some (.ref 0), some (.ref 16), some (.ref 55), some (.int 0)] [] (hF f, 97, 78870) (some (.int 1), h2) ∧ h2.2 = (97, 78870) := by
  have hp : ∃ v, prI 173 305 [] (991 + 9) 78870 f v := pa_fault
  obtain ⟨v, h1, e1, h2, e2, e3⟩ := hp
  have e1 : qMC 1000 173 [.ref 16] (hF f, 97, 78870) (some (.int v), h1) := e1
  have e2 : qMC 1000 305 [.ref 55] h1 (some (.int v), h2) := e2
  have k1 := e1.keep
  have k2 := e2.keep
  have g0 : hF f 0 = .inl (0, 7, .inl xs) := (hF_lo (by omega)).trans h0
  have g1 : h1.1 0 = .inl (0, 7, .inl xs) := (k1.2.2.2 (show 16 ≤ 97 by decide) 0 (by omega)).trans g0
  have g2 : h2.1 0 = .inl (0, 7, .inl xs) := (k2.2.2.2 (Nat.le_trans (show 16 ≤ 97 by decide) k1.1) 0 (by omega)).trans g1
  have hm1 : (55 < h1.2.1) = True := eq_true (Nat.lt_of_lt_of_le (show 55 < 97 by decide) k1.1)
  have hm2 : (∃ F, h1.1 55 = .inr (11, F)) = True := eq_true (k1.obj (show 55 < 97 by decide) (hF_55 (f := f)))
  have hend := law_last g2
  refine ⟨h2, ?_, e3⟩
  obtain ⟨h1f, h1n, h1s⟩ := h1
  simp only [e318_1581, e318_1582, e318_1585, e318_1586, e318_1589, e318_1592, e318_1593, hF_16, hF_55, ald_s g0 (i := 1) (j := 1) (by decide) (by decide), ald_s g0 (i := 2) (j := 2) (by decide) (by decide), ald_s g0 (i := 3) (j := 3) (by decide) (by decide), ald_s g0 (i := 4) (j := 4) (by decide) (by decide), ald_s g0 (i := 5) (j := 5) (by decide) (by decide), ald_s g0 (i := 6) (j := 6) (by decide) (by decide), ald_s g1 (i := 1) (j := 1) (by decide) (by decide), ald_s g1 (i := 2) (j := 2) (by decide) (by decide), ald_s g1 (i := 3) (j := 3) (by decide) (by decide), ald_s g1 (i := 4) (j := 4) (by decide) (by decide), ald_s g1 (i := 5) (j := 5) (by decide) (by decide), ald_s g1 (i := 6) (j := 6) (by decide) (by decide), show (0 : Int32) + 1 = 1 from rfl, show (0 : Int32) + 2 = 2 from rfl, show (0 : Int32) + 3 = 3 from rfl, show (0 : Int32) + 4 = 4 from rfl, show (0 : Int32) + 5 = 5 from rfl, show (0 : Int32) + 6 = 6 from rfl, qMC_det e1, qMC_det e2, hm1, hm2, lg_self, eq_self, ↓reduceIte, qg_7, qg_8, qg_9, qg_10, qg_11, not_true_eq_false, not_false_eq_true, Nat.reduceBEq, Bool.false_eq_true, Nat.reduceMul, qg_0, qg_1, qg_2, qg_3, qg_4, qg_5, qg_6, ex1, ex3, ex4, qfit_i, qfit_l, qfit_r, qfit_n, qfit_b0, qfit_b1, qcat_i, qcat_r, qcat_n, qcat_l, qroom_0, qroom_c, List.map_cons, List.map_nil, List.sum_cons, List.sum_nil, Nat.reduceAdd, Nat.reduceLT, Nat.reduceLeDiff, Nat.reduceEqDiff, Nat.reduceSub, decide_true, true_and, and_true, and_self, if_true, if_false, Option.toList_some, Option.toList_none, List.cons_append, List.nil_append, qput_mk, qiast_mk, qup_at, exF, qnF0, qnF1, qnF2, qnF3, qnF4, qnF5, qnF6, qnF7, qnF8, qnF9, qnF10, qnF11]
  exact hend
set_option maxRecDepth 100000 in
set_option maxHeartbeats 8000000 in
theorem law_41 {f : Nat → qC} {xs : Nat → Int32} (h0 : f 0 = .inl (0, 7, .inl xs)) : ∃ h2, qEv 1000 3 qk_318 1594 [some (.ref 0), some (.ref 16), some (.ref 55), some (.int 0)] [] (hF f, 97, 78870) (some (.int 1), h2) ∧ h2.2 = (97, 78870) := by
  have hp : ∃ v, prI 174 307 [.int (xs 1)] (991 + 9) 78870 f v := pa_claim
  obtain ⟨v, h1, e1, h2, e2, e3⟩ := hp
  have e1 : qMC 1000 174 [.ref 16, .int (xs 1)] (hF f, 97, 78870) (some (.int v), h1) := e1
  have e2 : qMC 1000 307 [.ref 55, .int (xs 1)] h1 (some (.int v), h2) := e2
  have k1 := e1.keep
  have k2 := e2.keep
  have g0 : hF f 0 = .inl (0, 7, .inl xs) := (hF_lo (by omega)).trans h0
  have g1 : h1.1 0 = .inl (0, 7, .inl xs) := (k1.2.2.2 (show 16 ≤ 97 by decide) 0 (by omega)).trans g0
  have g2 : h2.1 0 = .inl (0, 7, .inl xs) := (k2.2.2.2 (Nat.le_trans (show 16 ≤ 97 by decide) k1.1) 0 (by omega)).trans g1
  have hm1 : (55 < h1.2.1) = True := eq_true (Nat.lt_of_lt_of_le (show 55 < 97 by decide) k1.1)
  have hm2 : (∃ F, h1.1 55 = .inr (11, F)) = True := eq_true (k1.obj (show 55 < 97 by decide) (hF_55 (f := f)))
  have hend := law_last g2
  refine ⟨h2, ?_, e3⟩
  obtain ⟨h1f, h1n, h1s⟩ := h1
  simp only [e318_1594, e318_1595, e318_1596, e318_1597, e318_1598, e318_1599, e318_1600, e318_1603, e318_1604, e318_1605, e318_1606, e318_1607, e318_1608, e318_1609, e318_1612, e318_1615, e318_1616, hF_16, hF_55, ald_s g0 (i := 1) (j := 1) (by decide) (by decide), ald_s g0 (i := 2) (j := 2) (by decide) (by decide), ald_s g0 (i := 3) (j := 3) (by decide) (by decide), ald_s g0 (i := 4) (j := 4) (by decide) (by decide), ald_s g0 (i := 5) (j := 5) (by decide) (by decide), ald_s g0 (i := 6) (j := 6) (by decide) (by decide), ald_s g1 (i := 1) (j := 1) (by decide) (by decide), ald_s g1 (i := 2) (j := 2) (by decide) (by decide), ald_s g1 (i := 3) (j := 3) (by decide) (by decide), ald_s g1 (i := 4) (j := 4) (by decide) (by decide), ald_s g1 (i := 5) (j := 5) (by decide) (by decide), ald_s g1 (i := 6) (j := 6) (by decide) (by decide), show (0 : Int32) + 1 = 1 from rfl, show (0 : Int32) + 2 = 2 from rfl, show (0 : Int32) + 3 = 3 from rfl, show (0 : Int32) + 4 = 4 from rfl, show (0 : Int32) + 5 = 5 from rfl, show (0 : Int32) + 6 = 6 from rfl, qMC_det e1, qMC_det e2, hm1, hm2, lg_self, eq_self, ↓reduceIte, qg_7, qg_8, qg_9, qg_10, qg_11, not_true_eq_false, not_false_eq_true, Nat.reduceBEq, Bool.false_eq_true, Nat.reduceMul, qg_0, qg_1, qg_2, qg_3, qg_4, qg_5, qg_6, ex1, ex3, ex4, qfit_i, qfit_l, qfit_r, qfit_n, qfit_b0, qfit_b1, qcat_i, qcat_r, qcat_n, qcat_l, qroom_0, qroom_c, List.map_cons, List.map_nil, List.sum_cons, List.sum_nil, Nat.reduceAdd, Nat.reduceLT, Nat.reduceLeDiff, Nat.reduceEqDiff, Nat.reduceSub, decide_true, true_and, and_true, and_self, if_true, if_false, Option.toList_some, Option.toList_none, List.cons_append, List.nil_append, qput_mk, qiast_mk, qup_at, exF, qnF0, qnF1, qnF2, qnF3, qnF4, qnF5, qnF6, qnF7, qnF8, qnF9, qnF10, qnF11]
  exact hend
set_option maxRecDepth 100000 in
set_option maxHeartbeats 8000000 in
theorem law_one {f : Nat → qC} {xs : Nat → Int32} (h0 : f 0 = .inl (0, 7, .inl xs)) : ∃ h2, qEv 1000 3 qk_318 18 [some (.ref 0), some (.ref 16), some (.ref 55), some (.int 0)] [] (hF f, 97, 78870) (some (.int 1), h2) ∧ h2.2 = (97, 78870) := by
  have g0 : hF f 0 = .inl (0, 7, .inl xs) := (hF_lo (by omega)).trans h0
  have hx : ∀ R, qEv 1000 3 qk_318 33 [some (.ref 0), some (.ref 16), some (.ref 55), some (.int 0)] [.int (xs 0 &&& 63)] (hF f, 97, 78870) R → qEv 1000 3 qk_318 18 [some (.ref 0), some (.ref 16), some (.ref 55), some (.int 0)] [] (hF f, 97, 78870) R := by
    intro R hR
    simp only [e318_18, e318_19, e318_20, e318_21, e318_23, e318_24, e318_27, e318_28, e318_29, e318_30, e318_32, ale_s g0, ald_s g0 (i := 0) (j := 0) (by decide) (by decide), show ((Int32.ofNat 7 - 7) < 0) = False by decide, ↓reduceIte, qg_7, qg_8, qg_9, qg_10, qg_11, not_true_eq_false, not_false_eq_true, Nat.reduceBEq, Bool.false_eq_true, Nat.reduceMul, qg_0, qg_1, qg_2, qg_3, qg_4, qg_5, qg_6, ex1, ex3, ex4, qfit_i, qfit_l, qfit_r, qfit_n, qfit_b0, qfit_b1, qcat_i, qcat_r, qcat_n, qcat_l, qroom_0, qroom_c, List.map_cons, List.map_nil, List.sum_cons, List.sum_nil, Nat.reduceAdd, Nat.reduceLT, Nat.reduceLeDiff, Nat.reduceEqDiff, Nat.reduceSub, decide_true, true_and, and_true, and_self, if_true, if_false, Option.toList_some, Option.toList_none, List.cons_append, List.nil_append, qput_mk, qiast_mk, qup_at, exF, qnF0, qnF1, qnF2, qnF3, qnF4, qnF5, qnF6, qnF7, qnF8, qnF9, qnF10, qnF11]
    exact hR
  obtain ⟨z, hz⟩ : ∃ z, z = xs 0 &&& 63 := ⟨_, rfl⟩
  rw [← hz] at hx
  have hs := @e318_33
  by_cases hc : z.toInt < 0 ∨ 41 < z.toInt
  · refine ⟨(hF f, 97, 78870), hx _ (hs.mpr ?_), rfl⟩
    rw [if_pos hc]
    exact law_last g0
  · have h1 : ∃ c : Nat, c < 42 ∧ z.toInt = c := ⟨z.toInt.toNat, by omega, by omega⟩
    obtain ⟨c, hc1, hc2⟩ := h1
    have key : ∀ (t : Nat) (off : Int), (#[183, 236, 249, 272, 347, 390, 423, 466, 499, 532, 565, 608, 631, 664, 707, 760, 793, 816, 849, 882, 905, 928, 951, 974, 987, 1010, 1043, 1086, 1109, 1162, 1205, 1249, 1282, 1305, 1328, 1361, 1385, 1429, 1472, 1535, 1548, 1561] : Array Int)[c]? = some off → qtgt 33 off = t → (∃ h2, qEv 1000 3 qk_318 t [some (.ref 0), some (.ref 16), some (.ref 55), some (.int 0)] [] (hF f, 97, 78870) (some (.int 1), h2) ∧ h2.2 = (97, 78870)) → ∃ h2, qEv 1000 3 qk_318 18 [some (.ref 0), some (.ref 16), some (.ref 55), some (.int 0)] [] (hF f, 97, 78870) (some (.int 1), h2) ∧ h2.2 = (97, 78870) := by
      rintro t off ho ht ⟨h2, q1, q2⟩
      refine ⟨h2, hx _ (hs.mpr ?_), q2⟩
      rw [if_neg hc]
      refine ⟨off, ?_, by rw [ht]; exact q1⟩
      rw [hc2, show ((c : Int) - 0).toNat = c by omega]
      exact ho
    match c, hc1, key with
    | 0, _, key => exact key 216 183 rfl rfl (law_0 h0)
    | 1, _, key => exact key 269 236 rfl rfl (law_1 h0)
    | 2, _, key => exact key 282 249 rfl rfl (law_2 h0)
    | 3, _, key => exact key 305 272 rfl rfl (law_3 h0)
    | 4, _, key => exact key 380 347 rfl rfl (law_4 h0)
    | 5, _, key => exact key 423 390 rfl rfl (law_5 h0)
    | 6, _, key => exact key 456 423 rfl rfl (law_6 h0)
    | 7, _, key => exact key 499 466 rfl rfl (law_7 h0)
    | 8, _, key => exact key 532 499 rfl rfl (law_8 h0)
    | 9, _, key => exact key 565 532 rfl rfl (law_9 h0)
    | 10, _, key => exact key 598 565 rfl rfl (law_10 h0)
    | 11, _, key => exact key 641 608 rfl rfl (law_11 h0)
    | 12, _, key => exact key 664 631 rfl rfl (law_12 h0)
    | 13, _, key => exact key 697 664 rfl rfl (law_13 h0)
    | 14, _, key => exact key 740 707 rfl rfl (law_14 h0)
    | 15, _, key => exact key 793 760 rfl rfl (law_15 h0)
    | 16, _, key => exact key 826 793 rfl rfl (law_16 h0)
    | 17, _, key => exact key 849 816 rfl rfl (law_17 h0)
    | 18, _, key => exact key 882 849 rfl rfl (law_18 h0)
    | 19, _, key => exact key 915 882 rfl rfl (law_19 h0)
    | 20, _, key => exact key 938 905 rfl rfl (law_20 h0)
    | 21, _, key => exact key 961 928 rfl rfl (law_21 h0)
    | 22, _, key => exact key 984 951 rfl rfl (law_22 h0)
    | 23, _, key => exact key 1007 974 rfl rfl (law_23 h0)
    | 24, _, key => exact key 1020 987 rfl rfl (law_24 h0)
    | 25, _, key => exact key 1043 1010 rfl rfl (law_25 h0)
    | 26, _, key => exact key 1076 1043 rfl rfl (law_26 h0)
    | 27, _, key => exact key 1119 1086 rfl rfl (law_27 h0)
    | 28, _, key => exact key 1142 1109 rfl rfl (law_28 h0)
    | 29, _, key => exact key 1195 1162 rfl rfl (law_29 h0)
    | 30, _, key => exact key 1238 1205 rfl rfl (law_30 h0)
    | 31, _, key => exact key 1282 1249 rfl rfl (law_31 h0)
    | 32, _, key => exact key 1315 1282 rfl rfl (law_32 h0)
    | 33, _, key => exact key 1338 1305 rfl rfl (law_33 h0)
    | 34, _, key => exact key 1361 1328 rfl rfl (law_34 h0)
    | 35, _, key => exact key 1394 1361 rfl rfl (law_35 h0)
    | 36, _, key => exact key 1418 1385 rfl rfl (law_36 h0)
    | 37, _, key => exact key 1462 1429 rfl rfl (law_37 h0)
    | 38, _, key => exact key 1505 1472 rfl rfl (law_38 h0)
    | 39, _, key => exact key 1568 1535 rfl rfl (law_39 h0)
    | 40, _, key => exact key 1581 1548 rfl rfl (law_40 h0)
    | 41, _, key => exact key 1594 1561 rfl rfl (law_41 h0)
    | c + 42, hc1, _ => exact absurd hc1 (by omega)
theorem law_le7 (L : Nat) (xs : Nat → Int32) (hL : L ≤ 7) : qLaw L xs := by
  obtain ⟨f0, hf, hf0⟩ : ∃ f0, qh0 L xs = (f0, 16, 0) ∧ f0 0 = .inl (0, L, .inl xs) := ⟨_, rfl, rfl⟩
  have fin : (∃ h2, qEv 1000 3 qk_318 18 [some (.ref 0), some (.ref 16), some (.ref 55), some (.int 0)] [] (hF f0, 97, 78870) (some (.int 1), h2) ∧ h2.2 = (97, 78870)) → qLaw L xs := by
    rintro ⟨h2, q1, q2⟩
    obtain ⟨N, n, e⟩ := law_begin q1
    rw [← hf] at e
    exact ⟨N, n, h2, e, by rw [q2]; decide, by rw [q2]; decide⟩
  apply fin
  by_cases h7 : L = 7
  · subst h7; exact law_one hf0
  · have g0 : hF f0 0 = .inl (0, L, .inl xs) := (hF_lo (by omega)).trans hf0
    refine ⟨(hF f0, 97, 78870), law_out (h := (hF f0, 97, 78870)) (i := 0) g0 ?_, rfl⟩
    have : L = 0 ∨ L = 1 ∨ L = 2 ∨ L = 3 ∨ L = 4 ∨ L = 5 ∨ L = 6 := by omega
    rcases this with rfl | rfl | rfl | rfl | rfl | rfl | rfl <;> decide

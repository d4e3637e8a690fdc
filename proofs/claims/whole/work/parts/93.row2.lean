/-! ===== THE REFERENCE: row, pattern ===== -/
section ROW2
variable {d : Nat} {h : qH} {R : qRes}
def rowR (r : List Nat) (x v : Int32) (r' : List Nat) : Prop := ((¬ ∃ k, k ≤ 199 ∧ x = iN k) ∧ v = -1002 ∧ r' = r) ∨ ∃ k, (k ≤ 199 ∧ x = iN k) ∧ ((k ∈ r ∧ v = -1003 ∧ r' = r) ∨ (k ∉ r ∧ r.length = 104 ∧ v = -1004 ∧ r' = r) ∨ (k ∉ r ∧ r.length < 104 ∧ v = iN (r.length + 1) ∧ r' = r ++ [k]))
theorem nat_mem {r : List Nat} {k : Nat} : k ∈ r ↔ ∃ j, j < r.length ∧ r.getD j 0 = k := by
  constructor
  · intro hm
    obtain ⟨j, hj, e⟩ := List.getElem_of_mem hm
    exact ⟨j, hj, by rw [List.getD_eq_getElem?_getD, List.getElem?_eq_getElem hj]; exact e⟩
  · rintro ⟨j, hj, e⟩
    rw [List.getD_eq_getElem?_getD, List.getElem?_eq_getElem hj] at e
    rw [← show r[j] = k from e]; exact List.getElem_mem hj
set_option maxRecDepth 100000 in
set_option maxHeartbeats 16000000 in
theorem s_row {r : List Nat} (s : ShM h) (rv : RwV h r) (x : Int32) : ∃ v h' r', (∀ R, qMC (d + 2) 260 [.ref 55, .int x] h R ↔ R = (some (.int v), h')) ∧ Ch [81] [35] h h' ∧ RwV h' r' ∧ rowR r x v r' := by
  have l104 := rv.1
  have rng : ((0 : Int64) ≤ x.toInt64 ∧ x.toInt64 ≤ 199) ↔ ∃ k, k ≤ 199 ∧ x = iN k := by
    have := in_rng (x := x) (a := 0) (b := 199) (by omega)
    rw [show (0 : Int64) = (iN 0).toInt64 from rfl, show (199 : Int64) = (iN 199).toInt64 from rfl, this]
    exact ⟨fun z => z.elim (fun ⟨k, h1, h2⟩ => ⟨k, h1.2, h2⟩) (fun z => by omega), fun ⟨k, h1, h2⟩ => Or.inl ⟨k, ⟨Nat.zero_le _, h1⟩, h2⟩⟩
  by_cases hx : ∃ k, k ≤ 199 ∧ x = iN k
  · have hb : bI ((0 : Int64) ≤ x.toInt64 ∧ x.toInt64 ≤ 199) = 1 := if_pos (rng.mpr hx)
    obtain ⟨k, hk, rfl⟩ := hx
    have r0 : ∀ R, qMC (d + 2) 260 [.ref 55, .int (iN k)] h R ↔ qEv (d + 1) 0 qk_260 18 [some (.ref 55), some (.int (iN k)), some (.int (iN 0))] [] h R := by
      intro R
      simp (disch := first | assumption | omega) only [e260_0, e260_1, e260_2, e260_3, e260_6, e260_9, e260_12, e260_15, e260_16, e260_17, e260_19, e260_20, e260_23, e260_26, e260_27, e260_30, e260_31, e260_32, e260_33, e260_36, e260_39, e260_40, e260_43, e260_46, e260_47, e260_50, e260_52, e260_55, e260_58, e260_59, e260_60, e260_63, e260_64, e260_67, e260_68, e260_69, e260_70, e260_71, e260_74, e260_75, e260_76, e260_79, e260_80, e260_83, m260, ↓reduceIte, qg_0, qg_1, qg_2, qg_3, qg_4, qg_5, qg_6, qg_7, qg_8, qg_9, qg_10, qg_11, qg_12, qg_13, not_true_eq_false, not_false_eq_true, Nat.reduceBEq, Bool.false_eq_true, ex1, ex3, ex4, exF, qfit_i, qfit_l, qfit_r, qfit_n, qfit_b0, qfit_b1, qcat_i, qcat_r, qcat_n, qcat_l, qroom_0, qroom_c, List.map_cons, List.map_nil, List.sum_cons, List.sum_nil, Nat.reduceAdd, Nat.reduceMul, Nat.reduceLT, Nat.reduceLeDiff, Nat.reduceEqDiff, Nat.reduceSub, decide_true, true_and, and_true, and_self, if_true, if_false, Option.toList_some, Option.toList_none, List.cons_append, List.nil_append, qsL, qlong, List.length_cons, List.length_nil, s_in, hb, show ¬ (1 : Int32) = 0 by decide]
      exact Iff.rfl
    by_cases hm : k ∈ r
    · refine ⟨-1003, h, r, fun R => ?_, Ch.refl s, rv, Or.inr ⟨k, ⟨hk, rfl⟩, Or.inl ⟨hm, rfl, rfl⟩⟩⟩
      have key : ∀ (c j : Nat), j + c = r.length → (∃ i, j ≤ i ∧ i < r.length ∧ r.getD i 0 = k) → (qEv (d + 1) 0 qk_260 18 [some (.ref 55), some (.int (iN k)), some (.int (iN j))] [] h R ↔ R = (some (.int (-1003)), h)) := by
        intro c
        induction c with
        | zero =>
          rintro j hj ⟨i, h1, h2, -⟩
          omega
        | succ c ih =>
          rintro j hj ⟨i, h1, h2, h3⟩
          obtain ⟨q1, q2⟩ := rv.2.2 j (by omega)
          rw [e260_18]
          by_cases he : r.getD j 0 = k
          · rw [he] at q1
            simp (disch := first | assumption | omega) only [e260_0, e260_1, e260_2, e260_3, e260_6, e260_9, e260_12, e260_15, e260_16, e260_17, e260_19, e260_20, e260_23, e260_26, e260_27, e260_30, e260_31, e260_32, e260_33, e260_36, e260_39, e260_40, e260_43, e260_46, e260_47, e260_50, e260_52, e260_55, e260_58, e260_59, e260_60, e260_63, e260_64, e260_67, e260_68, e260_69, e260_70, e260_71, e260_74, e260_75, e260_76, e260_79, e260_80, e260_83, m260, ↓reduceIte, qg_0, qg_1, qg_2, qg_3, qg_4, qg_5, qg_6, qg_7, qg_8, qg_9, qg_10, qg_11, qg_12, qg_13, not_true_eq_false, not_false_eq_true, Nat.reduceBEq, Bool.false_eq_true, ex1, ex3, ex4, exF, qfit_i, qfit_l, qfit_r, qfit_n, qfit_b0, qfit_b1, qcat_i, qcat_r, qcat_n, qcat_l, qroom_0, qroom_c, List.map_cons, List.map_nil, List.sum_cons, List.sum_nil, Nat.reduceAdd, Nat.reduceMul, Nat.reduceLT, Nat.reduceLeDiff, Nat.reduceEqDiff, Nat.reduceSub, decide_true, true_and, and_true, and_self, if_true, if_false, Option.toList_some, Option.toList_none, List.cons_append, List.nil_append, qsL, qlong, List.length_cons, List.length_nil, gM_35, gM_36, rv.2.1, iN_le, show ¬ r.length ≤ j by omega, rM_81, q1]
          · simp (disch := first | assumption | omega) only [e260_0, e260_1, e260_2, e260_3, e260_6, e260_9, e260_12, e260_15, e260_16, e260_17, e260_19, e260_20, e260_23, e260_26, e260_27, e260_30, e260_31, e260_32, e260_33, e260_36, e260_39, e260_40, e260_43, e260_46, e260_47, e260_50, e260_52, e260_55, e260_58, e260_59, e260_60, e260_63, e260_64, e260_67, e260_68, e260_69, e260_70, e260_71, e260_74, e260_75, e260_76, e260_79, e260_80, e260_83, m260, ↓reduceIte, qg_0, qg_1, qg_2, qg_3, qg_4, qg_5, qg_6, qg_7, qg_8, qg_9, qg_10, qg_11, qg_12, qg_13, not_true_eq_false, not_false_eq_true, Nat.reduceBEq, Bool.false_eq_true, ex1, ex3, ex4, exF, qfit_i, qfit_l, qfit_r, qfit_n, qfit_b0, qfit_b1, qcat_i, qcat_r, qcat_n, qcat_l, qroom_0, qroom_c, List.map_cons, List.map_nil, List.sum_cons, List.sum_nil, Nat.reduceAdd, Nat.reduceMul, Nat.reduceLT, Nat.reduceLeDiff, Nat.reduceEqDiff, Nat.reduceSub, decide_true, true_and, and_true, and_self, if_true, if_false, Option.toList_some, Option.toList_none, List.cons_append, List.nil_append, qsL, qlong, List.length_cons, List.length_nil, gM_35, gM_36, rv.2.1, iN_le, show ¬ r.length ≤ j by omega, rM_81, q1, iN_eq, he, exI, iN_addL]
            exact ih (j + 1) (by omega) ⟨i, by rcases Nat.lt_or_ge j i with z | z; exact z; exact absurd (show r.getD j 0 = k by rw [show j = i by omega]; exact h3) he, h2, h3⟩
      obtain ⟨i, h1, h2⟩ := nat_mem.mp hm
      rw [r0 R]
      exact key r.length 0 (by omega) ⟨i, by omega, h1, h2⟩
    · have r1 : ∀ R, qEv (d + 1) 0 qk_260 18 [some (.ref 55), some (.int (iN k)), some (.int (iN 0))] [] h R ↔ qEv (d + 1) 0 qk_260 46 [some (.ref 55), some (.int (iN k)), some (.int (iN r.length))] [] h R := by
        intro R
        refine Iff.trans (loop_up (n := r.length) (L := fun j => [some (.ref 55), some (.int (iN k)), some (.int (iN j))]) (H := fun _ => h) ?_) ?_
        · intro j hj
          try dsimp only
          obtain ⟨q1, q2⟩ := rv.2.2 j hj
          have hne : ¬ r.getD j 0 = k := fun e => hm (nat_mem.mpr ⟨j, hj, e⟩)
          rw [e260_18]
          simp (disch := first | assumption | omega) only [e260_0, e260_1, e260_2, e260_3, e260_6, e260_9, e260_12, e260_15, e260_16, e260_17, e260_19, e260_20, e260_23, e260_26, e260_27, e260_30, e260_31, e260_32, e260_33, e260_36, e260_39, e260_40, e260_43, e260_47, e260_50, e260_52, e260_55, e260_58, e260_59, e260_60, e260_63, e260_64, e260_67, e260_68, e260_69, e260_70, e260_71, e260_74, e260_75, e260_76, e260_79, e260_80, e260_83, m260, ↓reduceIte, qg_0, qg_1, qg_2, qg_3, qg_4, qg_5, qg_6, qg_7, qg_8, qg_9, qg_10, qg_11, qg_12, qg_13, not_true_eq_false, not_false_eq_true, Nat.reduceBEq, Bool.false_eq_true, ex1, ex3, ex4, exF, qfit_i, qfit_l, qfit_r, qfit_n, qfit_b0, qfit_b1, qcat_i, qcat_r, qcat_n, qcat_l, qroom_0, qroom_c, List.map_cons, List.map_nil, List.sum_cons, List.sum_nil, Nat.reduceAdd, Nat.reduceMul, Nat.reduceLT, Nat.reduceLeDiff, Nat.reduceEqDiff, Nat.reduceSub, decide_true, true_and, and_true, and_self, if_true, if_false, Option.toList_some, Option.toList_none, List.cons_append, List.nil_append, qsL, qlong, List.length_cons, List.length_nil, gM_35, gM_36, rv.2.1, iN_le, show ¬ r.length ≤ j by omega, rM_81, q1, iN_eq, hne, exI, iN_addL]
        · try dsimp only
          rw [e260_18]
          simp (disch := first | assumption | omega) only [e260_0, e260_1, e260_2, e260_3, e260_6, e260_9, e260_12, e260_15, e260_16, e260_17, e260_19, e260_20, e260_23, e260_26, e260_27, e260_30, e260_31, e260_32, e260_33, e260_36, e260_39, e260_40, e260_43, e260_47, e260_50, e260_52, e260_55, e260_58, e260_59, e260_60, e260_63, e260_64, e260_67, e260_68, e260_69, e260_70, e260_71, e260_74, e260_75, e260_76, e260_79, e260_80, e260_83, m260, ↓reduceIte, qg_0, qg_1, qg_2, qg_3, qg_4, qg_5, qg_6, qg_7, qg_8, qg_9, qg_10, qg_11, qg_12, qg_13, not_true_eq_false, not_false_eq_true, Nat.reduceBEq, Bool.false_eq_true, ex1, ex3, ex4, exF, qfit_i, qfit_l, qfit_r, qfit_n, qfit_b0, qfit_b1, qcat_i, qcat_r, qcat_n, qcat_l, qroom_0, qroom_c, List.map_cons, List.map_nil, List.sum_cons, List.sum_nil, Nat.reduceAdd, Nat.reduceMul, Nat.reduceLT, Nat.reduceLeDiff, Nat.reduceEqDiff, Nat.reduceSub, decide_true, true_and, and_true, and_self, if_true, if_false, Option.toList_some, Option.toList_none, List.cons_append, List.nil_append, qsL, qlong, List.length_cons, List.length_nil, gM_35, rv.2.1, iN_le, Nat.le_refl]
      by_cases hf : r.length = 104
      · refine ⟨-1004, h, r, fun R => ?_, Ch.refl s, rv, Or.inr ⟨k, ⟨hk, rfl⟩, Or.inr (Or.inl ⟨hm, hf, rfl, rfl⟩)⟩⟩
        have m35 : mi h 35 = 104 := by rw [rv.2.1, hf]; rfl
        rw [r0 R, r1 R]
        simp (disch := first | assumption | omega) only [e260_0, e260_1, e260_2, e260_3, e260_6, e260_9, e260_12, e260_15, e260_16, e260_17, e260_19, e260_20, e260_23, e260_26, e260_27, e260_30, e260_31, e260_32, e260_33, e260_36, e260_39, e260_40, e260_43, e260_46, e260_47, e260_50, e260_52, e260_55, e260_58, e260_59, e260_60, e260_63, e260_64, e260_67, e260_68, e260_69, e260_70, e260_71, e260_74, e260_75, e260_76, e260_79, e260_80, e260_83, m260, ↓reduceIte, qg_0, qg_1, qg_2, qg_3, qg_4, qg_5, qg_6, qg_7, qg_8, qg_9, qg_10, qg_11, qg_12, qg_13, not_true_eq_false, not_false_eq_true, Nat.reduceBEq, Bool.false_eq_true, ex1, ex3, ex4, exF, qfit_i, qfit_l, qfit_r, qfit_n, qfit_b0, qfit_b1, qcat_i, qcat_r, qcat_n, qcat_l, qroom_0, qroom_c, List.map_cons, List.map_nil, List.sum_cons, List.sum_nil, Nat.reduceAdd, Nat.reduceMul, Nat.reduceLT, Nat.reduceLeDiff, Nat.reduceEqDiff, Nat.reduceSub, decide_true, true_and, and_true, and_self, if_true, if_false, Option.toList_some, Option.toList_none, List.cons_append, List.nil_append, qsL, qlong, List.length_cons, List.length_nil, gM_35, m35]
      · have k81 := kM_81 s
        have s1 : ShM (sI h 81 (upd (hi h 81) r.length (iN k))) := s.rowI k81
        have cI : Ch [81] [35] h (mI (sI h 81 (upd (hi h 81) r.length (iN k))) 35 (iN (r.length + 1))) := (Ch.rowI s k81 (by decide)).trans (Ch.setI s1 (by decide) (by decide))
        have s2 := cI.sh
        refine ⟨iN (r.length + 1), _, r ++ [k], fun R => ?_, cI, ?_, Or.inr ⟨k, ⟨hk, rfl⟩, Or.inr (Or.inr ⟨hm, by omega, rfl, rfl⟩)⟩⟩
        · rw [r0 R, r1 R]
          have hne : ¬ iN r.length = iN 104 := by rw [iN_eq (by omega) (by omega)]; exact hf
          have e35 : mi (mI (sI h 81 (upd (hi h 81) r.length (iN k))) 35 (iN (r.length + 1))) 35 = iN (r.length + 1) := by rw [mi_mI, if_pos rfl]
          simp (disch := first | assumption | omega) only [e260_0, e260_1, e260_2, e260_3, e260_6, e260_9, e260_12, e260_15, e260_16, e260_17, e260_19, e260_20, e260_23, e260_26, e260_27, e260_30, e260_31, e260_32, e260_33, e260_36, e260_39, e260_40, e260_43, e260_46, e260_47, e260_50, e260_52, e260_55, e260_58, e260_59, e260_60, e260_63, e260_64, e260_67, e260_68, e260_69, e260_70, e260_71, e260_74, e260_75, e260_76, e260_79, e260_80, e260_83, m260, ↓reduceIte, qg_0, qg_1, qg_2, qg_3, qg_4, qg_5, qg_6, qg_7, qg_8, qg_9, qg_10, qg_11, qg_12, qg_13, not_true_eq_false, not_false_eq_true, Nat.reduceBEq, Bool.false_eq_true, ex1, ex3, ex4, exF, qfit_i, qfit_l, qfit_r, qfit_n, qfit_b0, qfit_b1, qcat_i, qcat_r, qcat_n, qcat_l, qroom_0, qroom_c, List.map_cons, List.map_nil, List.sum_cons, List.sum_nil, Nat.reduceAdd, Nat.reduceMul, Nat.reduceLT, Nat.reduceLeDiff, Nat.reduceEqDiff, Nat.reduceSub, decide_true, true_and, and_true, and_self, if_true, if_false, Option.toList_some, Option.toList_none, List.cons_append, List.nil_append, qsL, qlong, List.length_cons, List.length_nil, gM_35, gM_36, rv.2.1, show (104 : Int32) = iN 104 from rfl, hne, wM_81, mi_sI k81, iN_addL, pM_35, e35]
        · refine ⟨by rw [List.length_append]; show r.length + 1 ≤ 104; omega, by rw [mi_mI, if_pos rfl, List.length_append]; rfl, fun p hp => ?_⟩
          rw [List.length_append] at hp
          have hp' : p < r.length + 1 := hp
          rw [hi_mI s1, hi_sI, if_pos rfl, upd_at, List.getD_eq_getElem?_getD]
          by_cases e : p = r.length
          · rw [if_pos e, e, List.getElem?_append_right (Nat.le_refl _), Nat.sub_self]
            exact ⟨rfl, by show k < 200; omega⟩
          · rw [if_neg e, List.getElem?_append_left (by omega), ← List.getD_eq_getElem?_getD]
            exact rv.2.2 p (by omega)
  · refine ⟨-1002, h, r, fun R => ?_, Ch.refl s, rv, Or.inl ⟨hx, rfl, rfl⟩⟩
    have hb : bI ((0 : Int64) ≤ x.toInt64 ∧ x.toInt64 ≤ 199) = 0 := if_neg (fun z => hx (rng.mp z))
    simp (disch := first | assumption | omega) only [e260_0, e260_1, e260_2, e260_3, e260_6, e260_9, e260_12, e260_15, e260_16, e260_17, e260_19, e260_20, e260_23, e260_26, e260_27, e260_30, e260_31, e260_32, e260_33, e260_36, e260_39, e260_40, e260_43, e260_46, e260_47, e260_50, e260_52, e260_55, e260_58, e260_59, e260_60, e260_63, e260_64, e260_67, e260_68, e260_69, e260_70, e260_71, e260_74, e260_75, e260_76, e260_79, e260_80, e260_83, m260, ↓reduceIte, qg_0, qg_1, qg_2, qg_3, qg_4, qg_5, qg_6, qg_7, qg_8, qg_9, qg_10, qg_11, qg_12, qg_13, not_true_eq_false, not_false_eq_true, Nat.reduceBEq, Bool.false_eq_true, ex1, ex3, ex4, exF, qfit_i, qfit_l, qfit_r, qfit_n, qfit_b0, qfit_b1, qcat_i, qcat_r, qcat_n, qcat_l, qroom_0, qroom_c, List.map_cons, List.map_nil, List.sum_cons, List.sum_nil, Nat.reduceAdd, Nat.reduceMul, Nat.reduceLT, Nat.reduceLeDiff, Nat.reduceEqDiff, Nat.reduceSub, decide_true, true_and, and_true, and_self, if_true, if_false, Option.toList_some, Option.toList_none, List.cons_append, List.nil_append, qsL, qlong, List.length_cons, List.length_nil, s_in, hb]
end ROW2

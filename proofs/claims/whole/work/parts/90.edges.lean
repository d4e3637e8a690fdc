/-! ===== THE REFERENCE: putEdges ===== -/
section EDGES
variable {d : Nat} {h : qH} {bs : List bdy} {R : qRes}
/-- the least two members of a set -/
def lo1 (x : Nat) : Nat := (pickN (fun k => x.testBit k) 24).getD 0 0
def lo2 (x : Nat) : Nat := (pickN (fun k => x.testBit k) 24).getD 1 0
theorem lo_spec {x : Nat} (hp : 2 ≤ pop x 24) : (lo1 x < lo2 x ∧ lo2 x < 24) ∧ (x.testBit (lo1 x) = true ∧ x.testBit (lo2 x) = true) ∧ (∀ k, k < lo1 x → x.testBit k = false) ∧ ∀ k, lo1 x < k → k < lo2 x → x.testBit k = false := by
  have h2 : 2 ≤ cntN (fun k => x.testBit k) 24 := hp
  obtain ⟨p, p1, p2, p3, p4⟩ := pickN_get (fun k => x.testBit k) (n := 24) (c := 0) (by omega)
  obtain ⟨q, q1, q2, q3, q4⟩ := pickN_get (fun k => x.testBit k) (n := 24) (c := 1) (by omega)
  have e1 : lo1 x = p := p4
  have e2 : lo2 x = q := q4
  have hb : ∀ k, x.testBit k = false ∨ x.testBit k = true := fun k => by cases x.testBit k <;> simp
  have hpq : p < q := by
    rcases Nat.lt_or_ge p q with z | z
    · exact z
    · have := cntN_mono (p := fun k => x.testBit k) z
      omega
  rw [e1, e2]
  refine ⟨⟨hpq, q1⟩, ⟨p2, q2⟩, fun k hk => ?_, fun k hk1 hk2 => ?_⟩
  · rcases hb k with z | z
    · exact z
    · have := cntN_lt (p := fun k => x.testBit k) hk z
      omega
  · rcases hb k with z | z
    · exact z
    · have h5 := cntN_lt (p := fun k => x.testBit k) hk2 z
      have h6 := cntN_lt (p := fun k => x.testBit k) hk1 p2
      omega
def SdV (h : qH) (n : Nat) (lv : Nat → Int) : Prop := n ≤ 16 ∧ ∀ c, c < n → hl h 74 c = lZ (lv c) ∧ -50000 ≤ lv c ∧ lv c ≤ 50000
def crs (lv : Nat → Int) (x : Nat) : Prop := (lv (lo1 x) < 0 ∧ 0 < lv (lo2 x)) ∨ (0 < lv (lo1 x) ∧ lv (lo2 x) < 0)
set_option maxRecDepth 100000 in
set_option maxHeartbeats 16000000 in
/-- the ends of an edge are found -/
theorem ed_ends {i x e : Nat} {x4 x5 : Option Value} (hx : x < 65536) (hp : 2 ≤ pop x 24) (R : qRes) : qEv (d + 4) 4 qk_221 20 [some (.ref 55), some (.int (iN i)), some (.int (iN e)), some (.int (iN x)), x4, x5] [] h R ↔ qEv (d + 4) 4 qk_221 59 [some (.ref 55), some (.int (iN i)), some (.int (iN e)), some (.int (iN x)), some (.int (iN (lo1 x))), some (.int (iN (lo2 x)))] [] h R := by
  obtain ⟨⟨l1, l2⟩, ⟨b1, b2⟩, n1, n2⟩ := lo_spec hp
  simp (disch := first | assumption | omega) only [e221_0, e221_1, e221_2, e221_3, e221_4, e221_5, e221_6, e221_9, e221_12, e221_13, e221_14, e221_15, e221_16, e221_19, e221_20, e221_21, e221_24, e221_26, e221_27, e221_28, e221_29, e221_32, e221_35, e221_38, e221_40, e221_41, e221_42, e221_44, e221_45, e221_47, e221_48, e221_49, e221_50, e221_53, e221_56, e221_60, e221_63, e221_65, e221_66, e221_67, e221_68, e221_71, e221_72, e221_75, e221_77, e221_78, e221_79, e221_80, e221_83, e221_84, e221_87, e221_89, e221_90, e221_91, e221_92, e221_95, e221_96, e221_99, e221_101, e221_102, e221_103, e221_104, e221_107, e221_108, e221_109, e221_111, e221_113, e221_114, e221_117, e221_119, e221_120, e221_121, e221_124, e221_126, e221_127, e221_130, e221_133, e221_136, m221, ↓reduceIte, qg_0, qg_1, qg_2, qg_3, qg_4, qg_5, qg_6, qg_7, qg_8, qg_9, qg_10, qg_11, qg_12, qg_13, not_true_eq_false, not_false_eq_true, Nat.reduceBEq, Bool.false_eq_true, ex1, ex3, ex4, exF, qfit_i, qfit_l, qfit_r, qfit_n, qfit_b0, qfit_b1, qcat_i, qcat_r, qcat_n, qcat_l, qroom_0, qroom_c, List.map_cons, List.map_nil, List.sum_cons, List.sum_nil, Nat.reduceAdd, Nat.reduceMul, Nat.reduceLT, Nat.reduceLeDiff, Nat.reduceEqDiff, Nat.reduceSub, decide_true, true_and, and_true, and_self, if_true, if_false, Option.toList_some, Option.toList_none, List.cons_append, List.nil_append, qsL, qlong, List.length_cons, List.length_nil, iN_L]
  refine Iff.trans (loop_up (n := lo1 x) (L := fun k => [some (.ref 55), some (.int (iN i)), some (.int (iN e)), some (.int (iN x)), some (.int (iN k)), x5]) (H := fun _ => h) ?_) ?_
  · intro k hk
    try dsimp only
    rw [e221_23]
    simp (disch := first | assumption | omega) only [e221_0, e221_1, e221_2, e221_3, e221_4, e221_5, e221_6, e221_9, e221_12, e221_13, e221_14, e221_15, e221_16, e221_19, e221_20, e221_21, e221_24, e221_26, e221_27, e221_28, e221_29, e221_32, e221_35, e221_38, e221_40, e221_41, e221_42, e221_45, e221_47, e221_48, e221_49, e221_50, e221_53, e221_56, e221_60, e221_63, e221_65, e221_66, e221_67, e221_68, e221_71, e221_72, e221_75, e221_77, e221_78, e221_79, e221_80, e221_83, e221_84, e221_87, e221_89, e221_90, e221_91, e221_92, e221_95, e221_96, e221_99, e221_101, e221_102, e221_103, e221_104, e221_107, e221_108, e221_109, e221_111, e221_113, e221_114, e221_117, e221_119, e221_120, e221_121, e221_124, e221_126, e221_127, e221_130, e221_133, e221_136, m221, ↓reduceIte, qg_0, qg_1, qg_2, qg_3, qg_4, qg_5, qg_6, qg_7, qg_8, qg_9, qg_10, qg_11, qg_12, qg_13, not_true_eq_false, not_false_eq_true, Nat.reduceBEq, Bool.false_eq_true, ex1, ex3, ex4, exF, qfit_i, qfit_l, qfit_r, qfit_n, qfit_b0, qfit_b1, qcat_i, qcat_r, qcat_n, qcat_l, qroom_0, qroom_c, List.map_cons, List.map_nil, List.sum_cons, List.sum_nil, Nat.reduceAdd, Nat.reduceMul, Nat.reduceLT, Nat.reduceLeDiff, Nat.reduceEqDiff, Nat.reduceSub, decide_true, true_and, and_true, and_self, if_true, if_false, Option.toList_some, Option.toList_none, List.cons_append, List.nil_append, qsL, qlong, List.length_cons, List.length_nil, iN_L, iN_bit, n1 k hk, exI, iN_add]
  · try dsimp only
    rw [e221_23]
    simp (disch := first | assumption | omega) only [e221_0, e221_1, e221_2, e221_3, e221_4, e221_5, e221_6, e221_9, e221_12, e221_13, e221_14, e221_15, e221_16, e221_19, e221_20, e221_21, e221_24, e221_26, e221_27, e221_28, e221_29, e221_32, e221_35, e221_38, e221_40, e221_41, e221_42, e221_45, e221_47, e221_48, e221_49, e221_50, e221_53, e221_56, e221_60, e221_63, e221_65, e221_66, e221_67, e221_68, e221_71, e221_72, e221_75, e221_77, e221_78, e221_79, e221_80, e221_83, e221_84, e221_87, e221_89, e221_90, e221_91, e221_92, e221_95, e221_96, e221_99, e221_101, e221_102, e221_103, e221_104, e221_107, e221_108, e221_109, e221_111, e221_113, e221_114, e221_117, e221_119, e221_120, e221_121, e221_124, e221_126, e221_127, e221_130, e221_133, e221_136, m221, ↓reduceIte, qg_0, qg_1, qg_2, qg_3, qg_4, qg_5, qg_6, qg_7, qg_8, qg_9, qg_10, qg_11, qg_12, qg_13, not_true_eq_false, not_false_eq_true, Nat.reduceBEq, Bool.false_eq_true, ex1, ex3, ex4, exF, qfit_i, qfit_l, qfit_r, qfit_n, qfit_b0, qfit_b1, qcat_i, qcat_r, qcat_n, qcat_l, qroom_0, qroom_c, List.map_cons, List.map_nil, List.sum_cons, List.sum_nil, Nat.reduceAdd, Nat.reduceMul, Nat.reduceLT, Nat.reduceLeDiff, Nat.reduceEqDiff, Nat.reduceSub, decide_true, true_and, and_true, and_self, if_true, if_false, Option.toList_some, Option.toList_none, List.cons_append, List.nil_append, qsL, qlong, List.length_cons, List.length_nil, iN_L, iN_bit, b1, iN_eq, Nat.one_ne_zero, iN_add]
    refine Iff.trans (loop_up (n := lo2 x - (lo1 x + 1)) (L := fun k => [some (.ref 55), some (.int (iN i)), some (.int (iN e)), some (.int (iN x)), some (.int (iN (lo1 x))), some (.int (iN (lo1 x + 1 + k)))]) (H := fun _ => h) ?_) ?_
    · intro k hk
      try dsimp only
      rw [e221_44]
      simp (disch := first | assumption | omega) only [e221_0, e221_1, e221_2, e221_3, e221_4, e221_5, e221_6, e221_9, e221_12, e221_13, e221_14, e221_15, e221_16, e221_19, e221_20, e221_21, e221_24, e221_26, e221_27, e221_28, e221_29, e221_32, e221_35, e221_38, e221_40, e221_41, e221_42, e221_45, e221_47, e221_48, e221_49, e221_50, e221_53, e221_56, e221_60, e221_63, e221_65, e221_66, e221_67, e221_68, e221_71, e221_72, e221_75, e221_77, e221_78, e221_79, e221_80, e221_83, e221_84, e221_87, e221_89, e221_90, e221_91, e221_92, e221_95, e221_96, e221_99, e221_101, e221_102, e221_103, e221_104, e221_107, e221_108, e221_109, e221_111, e221_113, e221_114, e221_117, e221_119, e221_120, e221_121, e221_124, e221_126, e221_127, e221_130, e221_133, e221_136, m221, ↓reduceIte, qg_0, qg_1, qg_2, qg_3, qg_4, qg_5, qg_6, qg_7, qg_8, qg_9, qg_10, qg_11, qg_12, qg_13, not_true_eq_false, not_false_eq_true, Nat.reduceBEq, Bool.false_eq_true, ex1, ex3, ex4, exF, qfit_i, qfit_l, qfit_r, qfit_n, qfit_b0, qfit_b1, qcat_i, qcat_r, qcat_n, qcat_l, qroom_0, qroom_c, List.map_cons, List.map_nil, List.sum_cons, List.sum_nil, Nat.reduceAdd, Nat.reduceMul, Nat.reduceLT, Nat.reduceLeDiff, Nat.reduceEqDiff, Nat.reduceSub, decide_true, true_and, and_true, and_self, if_true, if_false, Option.toList_some, Option.toList_none, List.cons_append, List.nil_append, qsL, qlong, List.length_cons, List.length_nil, iN_L, iN_bit, n2 (lo1 x + 1 + k) (by omega) (by omega), exI, iN_add]
      exact Iff.rfl
    · try dsimp only
      rw [e221_44, show lo1 x + 1 + (lo2 x - (lo1 x + 1)) = lo2 x by omega]
      simp (disch := first | assumption | omega) only [e221_0, e221_1, e221_2, e221_3, e221_4, e221_5, e221_6, e221_9, e221_12, e221_13, e221_14, e221_15, e221_16, e221_19, e221_20, e221_21, e221_24, e221_26, e221_27, e221_28, e221_29, e221_32, e221_35, e221_38, e221_40, e221_41, e221_42, e221_45, e221_47, e221_48, e221_49, e221_50, e221_53, e221_56, e221_60, e221_63, e221_65, e221_66, e221_67, e221_68, e221_71, e221_72, e221_75, e221_77, e221_78, e221_79, e221_80, e221_83, e221_84, e221_87, e221_89, e221_90, e221_91, e221_92, e221_95, e221_96, e221_99, e221_101, e221_102, e221_103, e221_104, e221_107, e221_108, e221_109, e221_111, e221_113, e221_114, e221_117, e221_119, e221_120, e221_121, e221_124, e221_126, e221_127, e221_130, e221_133, e221_136, m221, ↓reduceIte, qg_0, qg_1, qg_2, qg_3, qg_4, qg_5, qg_6, qg_7, qg_8, qg_9, qg_10, qg_11, qg_12, qg_13, not_true_eq_false, not_false_eq_true, Nat.reduceBEq, Bool.false_eq_true, ex1, ex3, ex4, exF, qfit_i, qfit_l, qfit_r, qfit_n, qfit_b0, qfit_b1, qcat_i, qcat_r, qcat_n, qcat_l, qroom_0, qroom_c, List.map_cons, List.map_nil, List.sum_cons, List.sum_nil, Nat.reduceAdd, Nat.reduceMul, Nat.reduceLT, Nat.reduceLeDiff, Nat.reduceEqDiff, Nat.reduceSub, decide_true, true_and, and_true, and_self, if_true, if_false, Option.toList_some, Option.toList_none, List.cons_append, List.nil_append, qsL, qlong, List.length_cons, List.length_nil, iN_L, iN_bit, b2, iN_eq, Nat.one_ne_zero]
end EDGES

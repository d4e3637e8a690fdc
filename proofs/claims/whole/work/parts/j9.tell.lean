/-! ===== THE CLASS: the hull is told points ===== -/
section XTELL
variable {d D : Nat} {h : qH} {R : qRes} {l : List pt4} {q : pt4}
theorem pt_ext {a b : pt4} : a = b ↔ co a 0 = co b 0 ∧ co a 1 = co b 1 ∧ co a 2 = co b 2 ∧ co a 3 = co b 3 := by
  constructor
  · rintro rfl; exact ⟨rfl, rfl, rfl, rfl⟩
  · obtain ⟨a0, a1, a2, a3⟩ := a
    obtain ⟨b0, b1, b2, b3⟩ := b
    rintro ⟨h0, h1, h2, h3⟩
    have e0 : a0 = b0 := h0
    have e1 : a1 = b1 := h1
    have e2 : a2 = b2 := h2
    have e3 : a3 = b3 := h3
    rw [e0, e1, e2, e3]
/-- the points told: the first 16 of all, and whether there were more -/
def HtX (h : qH) (D : Nat) (l : List pt4) : Prop := xi h 19 3 = iN D ∧ xi h 19 1 = iN (if l.length < 16 then l.length else 16) ∧ xi h 19 2 = bB (decide (16 < l.length)) ∧ ∀ p, p < l.length → p < 16 → ∀ k, k < 4 → hi h 20 (4 * p + k) = iZ (lP l p k) ∧ iB (lP l p k)
set_option maxRecDepth 100000 in
theorem x_begin (s : ShX h) (x : Int32) (hx : x = iN D) : ∃ h', (∀ R, qMC (d + 1) 13 [.ref 19, .int x] h R ↔ R = (none, h')) ∧ ChX [20] [(19, 1), (19, 2), (19, 3)] 0 h h' ∧ HtX h' D [] := by
  obtain ⟨h1, e1⟩ : ∃ h1, h1 = xV h 19 3 (.int x) := ⟨_, rfl⟩
  have c1 : ChX [20] [(19, 1), (19, 2), (19, 3)] 0 h h1 := by rw [e1]; exact ChX.setI s (by decide) (by decide)
  have s1 := c1.sh
  obtain ⟨h2, e2⟩ : ∃ h2, h2 = xV h1 19 1 (.int (iN 0)) := ⟨_, rfl⟩
  have c2 : ChX [20] [(19, 1), (19, 2), (19, 3)] 0 h h2 := c1.trans0 (by rw [e2]; exact ChX.setI s1 (by decide) (by decide))
  have s2 := c2.sh
  obtain ⟨h3, e3⟩ : ∃ h3, h3 = xV h2 19 2 (.int (iN 0)) := ⟨_, rfl⟩
  have c3 : ChX [20] [(19, 1), (19, 2), (19, 3)] 0 h h3 := c2.trans0 (by rw [e3]; exact ChX.setI s2 (by decide) (by decide))
  have p1 : qput h 19 2 3 (.int x) = some h1 := by rw [e1]; exact pX_19_3 s
  have p2 : qput h1 19 2 1 (.int (iN 0)) = some h2 := by rw [e2]; exact pX_19_1 s1
  have p3 : qput h2 19 2 2 (.int (iN 0)) = some h3 := by rw [e3]; exact pX_19_2 s2
  refine ⟨h3, fun R => ?_, c3, ?_, ?_, ?_, fun p hp => absurd hp (Nat.not_lt_zero p)⟩
  · simp (disch := first | assumption | omega) only [e13_0, e13_1, e13_2, e13_5, e13_6, e13_7, e13_10, e13_11, e13_12, e13_15, m13, ↓reduceIte, qg_0, qg_1, qg_2, qg_3, qg_4, qg_5, qg_6, qg_7, qg_8, qg_9, qg_10, qg_11, qg_12, qg_13, not_true_eq_false, not_false_eq_true, Nat.reduceBEq, Bool.false_eq_true, ex1, ex3, ex4, exF, qfit_i, qfit_l, qfit_r, qfit_n, qfit_b0, qfit_b1, qcat_i, qcat_r, qcat_n, qcat_l, qroom_0, qroom_c, List.map_cons, List.map_nil, List.sum_cons, List.sum_nil, Nat.reduceAdd, Nat.reduceMul, Nat.reduceLT, Nat.reduceLeDiff, Nat.reduceEqDiff, Nat.reduceSub, decide_true, true_and, and_true, and_self, if_true, if_false, Option.toList_some, Option.toList_none, List.cons_append, List.nil_append, qsL, qlong, List.length_cons, List.length_nil, iN_L, exI, iN_add, iN_mul, iN_le, iN_lt, iN_eq, Nat.le_refl, qfN0, qfN1, uX_16, vX_16, uX_19, vX_19, uX_27, vX_27, uX_30, vX_30, uX_39, vX_39, uX_41, vX_41, uX_43, vX_43, uX_46, vX_46, uX_50, vX_50, uX_53, vX_53, p1, p2, p3]
  · rw [e3, xi_xV, if_neg (by decide), e2, xi_xV, if_neg (by decide), e1, xi_xV, if_pos ⟨rfl, rfl⟩, hx]
  · rw [e3, xi_xV, if_neg (by decide), e2, xi_xV, if_pos ⟨rfl, rfl⟩]; rfl
  · rw [e3, xi_xV, if_pos ⟨rfl, rfl⟩]; rfl
set_option maxRecDepth 100000 in
set_option maxHeartbeats 16000000 in
theorem x_tell (s : ShX h) (hD : D < 1000) (v : HtX h D l) (hq : ptB q) : ∃ h', (∀ R, qMC (d + 1) 14 [.ref 19, .int (iZ q.1), .int (iZ q.2.1), .int (iZ q.2.2.1), .int (iZ q.2.2.2)] h R ↔ R = (none, h')) ∧ ChX [20] [(19, 1), (19, 2)] 0 h h' ∧ HtX h' D (addP l (prj D q)) := by
  obtain ⟨v3, v1, v2, vp⟩ := v
  have qb := ptB_prj (D := D) hq
  obtain ⟨m, em⟩ : ∃ m, m = if l.length < 16 then l.length else 16 := ⟨_, rfl⟩
  have m16 : m ≤ 16 ∧ m ≤ l.length := by rw [em]; split <;> omega
  rw [← em] at v1
  obtain ⟨q', eq'⟩ : ∃ q', q' = prj D q := ⟨_, rfl⟩
  rw [← eq'] at qb ⊢
  have c0 : q.1 = co q' 0 := by rw [eq']; rfl
  have c1 : q.2.1 = co q' 1 := by rw [eq']; rfl
  have c2 : co q' 2 = if 2 < D then q.2.2.1 else 0 := by rw [eq']; rfl
  have c3 : co q' 3 = if 3 < D then q.2.2.2 else 0 := by rw [eq']; rfl
  have r0 : ∀ R, qMC (d + 1) 14 [.ref 19, .int (iZ q.1), .int (iZ q.2.1), .int (iZ q.2.2.1), .int (iZ q.2.2.2)] h R ↔ qEv d 4 qk_14 34 [some (.ref 19), some (.int (iZ (co q' 0))), some (.int (iZ (co q' 1))), some (.int (iZ q.2.2.1)), some (.int (iZ q.2.2.2)), some (.int (iZ (co q' 2))), some (.int (iZ (co q' 3))), some (.int (iN 0)), none] [] h R := by
    intro R
    rw [c0, c1, c2, c3]
    by_cases z2 : 2 < D
    · by_cases z3 : 3 < D
      · rw [if_pos z2, if_pos z3]
        simp (disch := first | assumption | omega) only [e14_0, e14_1, e14_4, e14_5, e14_8, e14_9, e14_12, e14_13, e14_15, e14_16, e14_19, e14_20, e14_23, e14_25, e14_28, e14_29, e14_31, e14_32, e14_36, e14_37, e14_40, e14_43, e14_45, e14_46, e14_47, e14_49, e14_50, e14_53, e14_55, e14_56, e14_57, e14_60, e14_61, e14_64, e14_66, e14_67, e14_68, e14_69, e14_70, e14_73, e14_74, e14_77, e14_79, e14_80, e14_81, e14_82, e14_84, e14_87, e14_88, e14_91, e14_93, e14_94, e14_95, e14_96, e14_98, e14_101, e14_102, e14_105, e14_108, e14_109, e14_112, e14_114, e14_117, e14_118, e14_119, e14_122, e14_123, e14_124, e14_127, e14_128, e14_129, e14_131, e14_132, e14_135, e14_137, e14_138, e14_139, e14_140, e14_143, e14_145, e14_146, e14_147, e14_148, e14_149, e14_150, e14_153, e14_155, e14_156, e14_157, e14_159, e14_160, e14_161, e14_164, e14_166, e14_167, e14_168, e14_170, e14_171, e14_172, e14_173, e14_176, e14_177, e14_178, e14_181, m14, ↓reduceIte, qg_0, qg_1, qg_2, qg_3, qg_4, qg_5, qg_6, qg_7, qg_8, qg_9, qg_10, qg_11, qg_12, qg_13, not_true_eq_false, not_false_eq_true, Nat.reduceBEq, Bool.false_eq_true, ex1, ex3, ex4, exF, qfit_i, qfit_l, qfit_r, qfit_n, qfit_b0, qfit_b1, qcat_i, qcat_r, qcat_n, qcat_l, qroom_0, qroom_c, List.map_cons, List.map_nil, List.sum_cons, List.sum_nil, Nat.reduceAdd, Nat.reduceMul, Nat.reduceLT, Nat.reduceLeDiff, Nat.reduceEqDiff, Nat.reduceSub, decide_true, true_and, and_true, and_self, if_true, if_false, Option.toList_some, Option.toList_none, List.cons_append, List.nil_append, qsL, qlong, List.length_cons, List.length_nil, iN_L, exI, iN_add, iN_mul, iN_le, iN_lt, iN_eq, Nat.le_refl, qfN0, qfN1, uX_16, vX_16, uX_19, vX_19, uX_27, vX_27, uX_30, vX_30, uX_39, vX_39, uX_41, vX_41, uX_43, vX_43, uX_46, vX_46, uX_50, vX_50, uX_53, vX_53, gX_19_3, v3, show ¬ D ≤ 2 by omega, show ¬ D ≤ 3 by omega]
      · rw [if_pos z2, if_neg z3, show iZ 0 = iN 0 from rfl]
        simp (disch := first | assumption | omega) only [e14_0, e14_1, e14_4, e14_5, e14_8, e14_9, e14_12, e14_13, e14_15, e14_16, e14_19, e14_20, e14_23, e14_25, e14_28, e14_29, e14_31, e14_32, e14_36, e14_37, e14_40, e14_43, e14_45, e14_46, e14_47, e14_49, e14_50, e14_53, e14_55, e14_56, e14_57, e14_60, e14_61, e14_64, e14_66, e14_67, e14_68, e14_69, e14_70, e14_73, e14_74, e14_77, e14_79, e14_80, e14_81, e14_82, e14_84, e14_87, e14_88, e14_91, e14_93, e14_94, e14_95, e14_96, e14_98, e14_101, e14_102, e14_105, e14_108, e14_109, e14_112, e14_114, e14_117, e14_118, e14_119, e14_122, e14_123, e14_124, e14_127, e14_128, e14_129, e14_131, e14_132, e14_135, e14_137, e14_138, e14_139, e14_140, e14_143, e14_145, e14_146, e14_147, e14_148, e14_149, e14_150, e14_153, e14_155, e14_156, e14_157, e14_159, e14_160, e14_161, e14_164, e14_166, e14_167, e14_168, e14_170, e14_171, e14_172, e14_173, e14_176, e14_177, e14_178, e14_181, m14, ↓reduceIte, qg_0, qg_1, qg_2, qg_3, qg_4, qg_5, qg_6, qg_7, qg_8, qg_9, qg_10, qg_11, qg_12, qg_13, not_true_eq_false, not_false_eq_true, Nat.reduceBEq, Bool.false_eq_true, ex1, ex3, ex4, exF, qfit_i, qfit_l, qfit_r, qfit_n, qfit_b0, qfit_b1, qcat_i, qcat_r, qcat_n, qcat_l, qroom_0, qroom_c, List.map_cons, List.map_nil, List.sum_cons, List.sum_nil, Nat.reduceAdd, Nat.reduceMul, Nat.reduceLT, Nat.reduceLeDiff, Nat.reduceEqDiff, Nat.reduceSub, decide_true, true_and, and_true, and_self, if_true, if_false, Option.toList_some, Option.toList_none, List.cons_append, List.nil_append, qsL, qlong, List.length_cons, List.length_nil, iN_L, exI, iN_add, iN_mul, iN_le, iN_lt, iN_eq, Nat.le_refl, qfN0, qfN1, uX_16, vX_16, uX_19, vX_19, uX_27, vX_27, uX_30, vX_30, uX_39, vX_39, uX_41, vX_41, uX_43, vX_43, uX_46, vX_46, uX_50, vX_50, uX_53, vX_53, gX_19_3, v3, show ¬ D ≤ 2 by omega, show D ≤ 3 by omega]
    · rw [if_neg z2, if_neg (by omega), show iZ 0 = iN 0 from rfl]
      simp (disch := first | assumption | omega) only [e14_0, e14_1, e14_4, e14_5, e14_8, e14_9, e14_12, e14_13, e14_15, e14_16, e14_19, e14_20, e14_23, e14_25, e14_28, e14_29, e14_31, e14_32, e14_36, e14_37, e14_40, e14_43, e14_45, e14_46, e14_47, e14_49, e14_50, e14_53, e14_55, e14_56, e14_57, e14_60, e14_61, e14_64, e14_66, e14_67, e14_68, e14_69, e14_70, e14_73, e14_74, e14_77, e14_79, e14_80, e14_81, e14_82, e14_84, e14_87, e14_88, e14_91, e14_93, e14_94, e14_95, e14_96, e14_98, e14_101, e14_102, e14_105, e14_108, e14_109, e14_112, e14_114, e14_117, e14_118, e14_119, e14_122, e14_123, e14_124, e14_127, e14_128, e14_129, e14_131, e14_132, e14_135, e14_137, e14_138, e14_139, e14_140, e14_143, e14_145, e14_146, e14_147, e14_148, e14_149, e14_150, e14_153, e14_155, e14_156, e14_157, e14_159, e14_160, e14_161, e14_164, e14_166, e14_167, e14_168, e14_170, e14_171, e14_172, e14_173, e14_176, e14_177, e14_178, e14_181, m14, ↓reduceIte, qg_0, qg_1, qg_2, qg_3, qg_4, qg_5, qg_6, qg_7, qg_8, qg_9, qg_10, qg_11, qg_12, qg_13, not_true_eq_false, not_false_eq_true, Nat.reduceBEq, Bool.false_eq_true, ex1, ex3, ex4, exF, qfit_i, qfit_l, qfit_r, qfit_n, qfit_b0, qfit_b1, qcat_i, qcat_r, qcat_n, qcat_l, qroom_0, qroom_c, List.map_cons, List.map_nil, List.sum_cons, List.sum_nil, Nat.reduceAdd, Nat.reduceMul, Nat.reduceLT, Nat.reduceLeDiff, Nat.reduceEqDiff, Nat.reduceSub, decide_true, true_and, and_true, and_self, if_true, if_false, Option.toList_some, Option.toList_none, List.cons_append, List.nil_append, qsL, qlong, List.length_cons, List.length_nil, iN_L, exI, iN_add, iN_mul, iN_le, iN_lt, iN_eq, Nat.le_refl, qfN0, qfN1, uX_16, vX_16, uX_19, vX_19, uX_27, vX_27, uX_30, vX_30, uX_39, vX_39, uX_41, vX_41, uX_43, vX_43, uX_46, vX_46, uX_50, vX_50, uX_53, vX_53, gX_19_3, v3, show D ≤ 2 by omega, show D ≤ 3 by omega]
  obtain ⟨y2, ey2⟩ : ∃ y2 : Option Value, y2 = some (.int (iZ q.2.2.1)) := ⟨_, rfl⟩
  obtain ⟨y3, ey3⟩ : ∃ y3 : Option Value, y3 = some (.int (iZ q.2.2.2)) := ⟨_, rfl⟩
  rw [← ey2, ← ey3] at r0
  have rd : ∀ p k, p < m → k < 4 → qiald h 20 (iN (p * 4 + k)) = some (iZ (lP l p k)) := fun p k hp hk => by
    rw [rX_20 s (by omega), Nat.mul_comm, (vp p (by omega) (by omega) k hk).1]
  -- a point that is there
  have here : ∀ p x8, p < m → l.getD p z4 = q' → ∀ R, qEv d 4 qk_14 34 [some (.ref 19), some (.int (iZ (co q' 0))), some (.int (iZ (co q' 1))), y2, y3, some (.int (iZ (co q' 2))), some (.int (iZ (co q' 3))), some (.int (iN p)), x8] [] h R ↔ R = (none, h) := by
    intro p x8 hp e R
    have w0 := rd p 0 hp (by decide)
    have w1 := rd p 1 hp (by decide)
    have w2 := rd p 2 hp (by decide)
    have w3 := rd p 3 hp (by decide)
    unfold lP at w0 w1 w2 w3
    rw [e] at w0 w1 w2 w3
    rw [Nat.add_zero] at w0
    rw [e14_34]
    simp (disch := first | assumption | omega) only [e14_0, e14_1, e14_4, e14_5, e14_8, e14_9, e14_12, e14_13, e14_15, e14_16, e14_19, e14_20, e14_23, e14_25, e14_28, e14_29, e14_31, e14_32, e14_36, e14_37, e14_40, e14_43, e14_45, e14_46, e14_47, e14_49, e14_50, e14_53, e14_55, e14_56, e14_57, e14_60, e14_61, e14_64, e14_66, e14_67, e14_68, e14_69, e14_70, e14_73, e14_74, e14_77, e14_79, e14_80, e14_81, e14_82, e14_84, e14_87, e14_88, e14_91, e14_93, e14_94, e14_95, e14_96, e14_98, e14_101, e14_102, e14_105, e14_108, e14_109, e14_112, e14_114, e14_117, e14_118, e14_119, e14_122, e14_123, e14_124, e14_127, e14_128, e14_129, e14_131, e14_132, e14_135, e14_137, e14_138, e14_139, e14_140, e14_143, e14_145, e14_146, e14_147, e14_148, e14_149, e14_150, e14_153, e14_155, e14_156, e14_157, e14_159, e14_160, e14_161, e14_164, e14_166, e14_167, e14_168, e14_170, e14_171, e14_172, e14_173, e14_176, e14_177, e14_178, e14_181, m14, ↓reduceIte, qg_0, qg_1, qg_2, qg_3, qg_4, qg_5, qg_6, qg_7, qg_8, qg_9, qg_10, qg_11, qg_12, qg_13, not_true_eq_false, not_false_eq_true, Nat.reduceBEq, Bool.false_eq_true, ex1, ex3, ex4, exF, qfit_i, qfit_l, qfit_r, qfit_n, qfit_b0, qfit_b1, qcat_i, qcat_r, qcat_n, qcat_l, qroom_0, qroom_c, List.map_cons, List.map_nil, List.sum_cons, List.sum_nil, Nat.reduceAdd, Nat.reduceMul, Nat.reduceLT, Nat.reduceLeDiff, Nat.reduceEqDiff, Nat.reduceSub, decide_true, true_and, and_true, and_self, if_true, if_false, Option.toList_some, Option.toList_none, List.cons_append, List.nil_append, qsL, qlong, List.length_cons, List.length_nil, iN_L, exI, iN_add, iN_mul, iN_le, iN_lt, iN_eq, Nat.le_refl, qfN0, qfN1, uX_16, vX_16, uX_19, vX_19, uX_27, vX_27, uX_30, vX_30, uX_39, vX_39, uX_41, vX_41, uX_43, vX_43, uX_46, vX_46, uX_50, vX_50, uX_53, vX_53, gX_19_1, v1, show ¬ m ≤ p by omega, gX_19_0, w0, w1, w2, w3]
  have next : ∀ p x8, p < m → l.getD p z4 ≠ q' → ∃ y8, ∀ R, qEv d 4 qk_14 34 [some (.ref 19), some (.int (iZ (co q' 0))), some (.int (iZ (co q' 1))), y2, y3, some (.int (iZ (co q' 2))), some (.int (iZ (co q' 3))), some (.int (iN p)), x8] [] h R ↔ qEv d 4 qk_14 34 [some (.ref 19), some (.int (iZ (co q' 0))), some (.int (iZ (co q' 1))), y2, y3, some (.int (iZ (co q' 2))), some (.int (iZ (co q' 3))), some (.int (iN (p + 1))), y8] [] h R := by
    intro p x8 hp e
    refine ⟨some (.int (iN (p * 4))), fun R => ?_⟩
    have w0 := rd p 0 hp (by decide)
    have w1 := rd p 1 hp (by decide)
    have w2 := rd p 2 hp (by decide)
    have w3 := rd p 3 hp (by decide)
    rw [Nat.add_zero] at w0
    have b : ∀ k, k < 4 → (iZ (lP l p k) = iZ (co q' k) ↔ lP l p k = co q' k) := fun k hk => iZ_eq (vp p (by omega) (by omega) k hk).2 (qb k hk)
    rw [e14_34]
    by_cases e0 : lP l p 0 = co q' 0
    · by_cases e1 : lP l p 1 = co q' 1
      · by_cases e2 : lP l p 2 = co q' 2
        · have e3 : ¬ lP l p 3 = co q' 3 := fun z => e (pt_ext.mpr ⟨e0, e1, e2, z⟩)
          simp (disch := first | assumption | omega) only [e14_0, e14_1, e14_4, e14_5, e14_8, e14_9, e14_12, e14_13, e14_15, e14_16, e14_19, e14_20, e14_23, e14_25, e14_28, e14_29, e14_31, e14_32, e14_36, e14_37, e14_40, e14_43, e14_45, e14_46, e14_47, e14_49, e14_50, e14_53, e14_55, e14_56, e14_57, e14_60, e14_61, e14_64, e14_66, e14_67, e14_68, e14_69, e14_70, e14_73, e14_74, e14_77, e14_79, e14_80, e14_81, e14_82, e14_84, e14_87, e14_88, e14_91, e14_93, e14_94, e14_95, e14_96, e14_98, e14_101, e14_102, e14_105, e14_108, e14_109, e14_112, e14_114, e14_117, e14_118, e14_119, e14_122, e14_123, e14_124, e14_127, e14_128, e14_129, e14_131, e14_132, e14_135, e14_137, e14_138, e14_139, e14_140, e14_143, e14_145, e14_146, e14_147, e14_148, e14_149, e14_150, e14_153, e14_155, e14_156, e14_157, e14_159, e14_160, e14_161, e14_164, e14_166, e14_167, e14_168, e14_170, e14_171, e14_172, e14_173, e14_176, e14_177, e14_178, e14_181, m14, ↓reduceIte, qg_0, qg_1, qg_2, qg_3, qg_4, qg_5, qg_6, qg_7, qg_8, qg_9, qg_10, qg_11, qg_12, qg_13, not_true_eq_false, not_false_eq_true, Nat.reduceBEq, Bool.false_eq_true, ex1, ex3, ex4, exF, qfit_i, qfit_l, qfit_r, qfit_n, qfit_b0, qfit_b1, qcat_i, qcat_r, qcat_n, qcat_l, qroom_0, qroom_c, List.map_cons, List.map_nil, List.sum_cons, List.sum_nil, Nat.reduceAdd, Nat.reduceMul, Nat.reduceLT, Nat.reduceLeDiff, Nat.reduceEqDiff, Nat.reduceSub, decide_true, true_and, and_true, and_self, if_true, if_false, Option.toList_some, Option.toList_none, List.cons_append, List.nil_append, qsL, qlong, List.length_cons, List.length_nil, iN_L, exI, iN_add, iN_mul, iN_le, iN_lt, iN_eq, Nat.le_refl, qfN0, qfN1, uX_16, vX_16, uX_19, vX_19, uX_27, vX_27, uX_30, vX_30, uX_39, vX_39, uX_41, vX_41, uX_43, vX_43, uX_46, vX_46, uX_50, vX_50, uX_53, vX_53, gX_19_1, v1, show ¬ m ≤ p by omega, gX_19_0, w0, w1, w2, w3, b 0 (by decide), b 1 (by decide), b 2 (by decide), b 3 (by decide), e0, e1, e2, e3]
        · simp (disch := first | assumption | omega) only [e14_0, e14_1, e14_4, e14_5, e14_8, e14_9, e14_12, e14_13, e14_15, e14_16, e14_19, e14_20, e14_23, e14_25, e14_28, e14_29, e14_31, e14_32, e14_36, e14_37, e14_40, e14_43, e14_45, e14_46, e14_47, e14_49, e14_50, e14_53, e14_55, e14_56, e14_57, e14_60, e14_61, e14_64, e14_66, e14_67, e14_68, e14_69, e14_70, e14_73, e14_74, e14_77, e14_79, e14_80, e14_81, e14_82, e14_84, e14_87, e14_88, e14_91, e14_93, e14_94, e14_95, e14_96, e14_98, e14_101, e14_102, e14_105, e14_108, e14_109, e14_112, e14_114, e14_117, e14_118, e14_119, e14_122, e14_123, e14_124, e14_127, e14_128, e14_129, e14_131, e14_132, e14_135, e14_137, e14_138, e14_139, e14_140, e14_143, e14_145, e14_146, e14_147, e14_148, e14_149, e14_150, e14_153, e14_155, e14_156, e14_157, e14_159, e14_160, e14_161, e14_164, e14_166, e14_167, e14_168, e14_170, e14_171, e14_172, e14_173, e14_176, e14_177, e14_178, e14_181, m14, ↓reduceIte, qg_0, qg_1, qg_2, qg_3, qg_4, qg_5, qg_6, qg_7, qg_8, qg_9, qg_10, qg_11, qg_12, qg_13, not_true_eq_false, not_false_eq_true, Nat.reduceBEq, Bool.false_eq_true, ex1, ex3, ex4, exF, qfit_i, qfit_l, qfit_r, qfit_n, qfit_b0, qfit_b1, qcat_i, qcat_r, qcat_n, qcat_l, qroom_0, qroom_c, List.map_cons, List.map_nil, List.sum_cons, List.sum_nil, Nat.reduceAdd, Nat.reduceMul, Nat.reduceLT, Nat.reduceLeDiff, Nat.reduceEqDiff, Nat.reduceSub, decide_true, true_and, and_true, and_self, if_true, if_false, Option.toList_some, Option.toList_none, List.cons_append, List.nil_append, qsL, qlong, List.length_cons, List.length_nil, iN_L, exI, iN_add, iN_mul, iN_le, iN_lt, iN_eq, Nat.le_refl, qfN0, qfN1, uX_16, vX_16, uX_19, vX_19, uX_27, vX_27, uX_30, vX_30, uX_39, vX_39, uX_41, vX_41, uX_43, vX_43, uX_46, vX_46, uX_50, vX_50, uX_53, vX_53, gX_19_1, v1, show ¬ m ≤ p by omega, gX_19_0, w0, w1, w2, b 0 (by decide), b 1 (by decide), b 2 (by decide), e0, e1, e2]
      · simp (disch := first | assumption | omega) only [e14_0, e14_1, e14_4, e14_5, e14_8, e14_9, e14_12, e14_13, e14_15, e14_16, e14_19, e14_20, e14_23, e14_25, e14_28, e14_29, e14_31, e14_32, e14_36, e14_37, e14_40, e14_43, e14_45, e14_46, e14_47, e14_49, e14_50, e14_53, e14_55, e14_56, e14_57, e14_60, e14_61, e14_64, e14_66, e14_67, e14_68, e14_69, e14_70, e14_73, e14_74, e14_77, e14_79, e14_80, e14_81, e14_82, e14_84, e14_87, e14_88, e14_91, e14_93, e14_94, e14_95, e14_96, e14_98, e14_101, e14_102, e14_105, e14_108, e14_109, e14_112, e14_114, e14_117, e14_118, e14_119, e14_122, e14_123, e14_124, e14_127, e14_128, e14_129, e14_131, e14_132, e14_135, e14_137, e14_138, e14_139, e14_140, e14_143, e14_145, e14_146, e14_147, e14_148, e14_149, e14_150, e14_153, e14_155, e14_156, e14_157, e14_159, e14_160, e14_161, e14_164, e14_166, e14_167, e14_168, e14_170, e14_171, e14_172, e14_173, e14_176, e14_177, e14_178, e14_181, m14, ↓reduceIte, qg_0, qg_1, qg_2, qg_3, qg_4, qg_5, qg_6, qg_7, qg_8, qg_9, qg_10, qg_11, qg_12, qg_13, not_true_eq_false, not_false_eq_true, Nat.reduceBEq, Bool.false_eq_true, ex1, ex3, ex4, exF, qfit_i, qfit_l, qfit_r, qfit_n, qfit_b0, qfit_b1, qcat_i, qcat_r, qcat_n, qcat_l, qroom_0, qroom_c, List.map_cons, List.map_nil, List.sum_cons, List.sum_nil, Nat.reduceAdd, Nat.reduceMul, Nat.reduceLT, Nat.reduceLeDiff, Nat.reduceEqDiff, Nat.reduceSub, decide_true, true_and, and_true, and_self, if_true, if_false, Option.toList_some, Option.toList_none, List.cons_append, List.nil_append, qsL, qlong, List.length_cons, List.length_nil, iN_L, exI, iN_add, iN_mul, iN_le, iN_lt, iN_eq, Nat.le_refl, qfN0, qfN1, uX_16, vX_16, uX_19, vX_19, uX_27, vX_27, uX_30, vX_30, uX_39, vX_39, uX_41, vX_41, uX_43, vX_43, uX_46, vX_46, uX_50, vX_50, uX_53, vX_53, gX_19_1, v1, show ¬ m ≤ p by omega, gX_19_0, w0, w1, b 0 (by decide), b 1 (by decide), e0, e1]
    · simp (disch := first | assumption | omega) only [e14_0, e14_1, e14_4, e14_5, e14_8, e14_9, e14_12, e14_13, e14_15, e14_16, e14_19, e14_20, e14_23, e14_25, e14_28, e14_29, e14_31, e14_32, e14_36, e14_37, e14_40, e14_43, e14_45, e14_46, e14_47, e14_49, e14_50, e14_53, e14_55, e14_56, e14_57, e14_60, e14_61, e14_64, e14_66, e14_67, e14_68, e14_69, e14_70, e14_73, e14_74, e14_77, e14_79, e14_80, e14_81, e14_82, e14_84, e14_87, e14_88, e14_91, e14_93, e14_94, e14_95, e14_96, e14_98, e14_101, e14_102, e14_105, e14_108, e14_109, e14_112, e14_114, e14_117, e14_118, e14_119, e14_122, e14_123, e14_124, e14_127, e14_128, e14_129, e14_131, e14_132, e14_135, e14_137, e14_138, e14_139, e14_140, e14_143, e14_145, e14_146, e14_147, e14_148, e14_149, e14_150, e14_153, e14_155, e14_156, e14_157, e14_159, e14_160, e14_161, e14_164, e14_166, e14_167, e14_168, e14_170, e14_171, e14_172, e14_173, e14_176, e14_177, e14_178, e14_181, m14, ↓reduceIte, qg_0, qg_1, qg_2, qg_3, qg_4, qg_5, qg_6, qg_7, qg_8, qg_9, qg_10, qg_11, qg_12, qg_13, not_true_eq_false, not_false_eq_true, Nat.reduceBEq, Bool.false_eq_true, ex1, ex3, ex4, exF, qfit_i, qfit_l, qfit_r, qfit_n, qfit_b0, qfit_b1, qcat_i, qcat_r, qcat_n, qcat_l, qroom_0, qroom_c, List.map_cons, List.map_nil, List.sum_cons, List.sum_nil, Nat.reduceAdd, Nat.reduceMul, Nat.reduceLT, Nat.reduceLeDiff, Nat.reduceEqDiff, Nat.reduceSub, decide_true, true_and, and_true, and_self, if_true, if_false, Option.toList_some, Option.toList_none, List.cons_append, List.nil_append, qsL, qlong, List.length_cons, List.length_nil, iN_L, exI, iN_add, iN_mul, iN_le, iN_lt, iN_eq, Nat.le_refl, qfN0, qfN1, uX_16, vX_16, uX_19, vX_19, uX_27, vX_27, uX_30, vX_30, uX_39, vX_39, uX_41, vX_41, uX_43, vX_43, uX_46, vX_46, uX_50, vX_50, uX_53, vX_53, gX_19_1, v1, show ¬ m ≤ p by omega, gX_19_0, w0, b 0 (by decide), e0]
  have go : ∀ (w p : Nat) (x8 : Option Value), p + w = m → (∃ t, p ≤ t ∧ t < m ∧ l.getD t z4 = q') → ∀ R, (qEv d 4 qk_14 34 [some (.ref 19), some (.int (iZ (co q' 0))), some (.int (iZ (co q' 1))), y2, y3, some (.int (iZ (co q' 2))), some (.int (iZ (co q' 3))), some (.int (iN p)), x8] [] h R ↔ R = (none, h)) := by
    intro w
    induction w with
    | zero => intro p x8 hp ⟨t, t1, t2, _⟩; omega
    | succ w ih =>
      intro p x8 hp ht R
      by_cases e : l.getD p z4 = q'
      · exact here p x8 (by omega) e R
      · obtain ⟨y8, ry⟩ := next p x8 (by omega) e
        rw [ry R]
        obtain ⟨t, t1, t2, t3⟩ := ht
        refine ih (p + 1) y8 (by omega) ⟨t, ?_, t2, t3⟩ R
        rcases Nat.lt_or_ge p t with z | z
        · exact z
        · rw [show t = p by omega] at t3; exact absurd t3 e
  have gone' : ∀ (w p : Nat) (x8 : Option Value), p + w = m → (∀ t, t < m → l.getD t z4 ≠ q') → ∃ y8, ∀ R, (qEv d 4 qk_14 34 [some (.ref 19), some (.int (iZ (co q' 0))), some (.int (iZ (co q' 1))), y2, y3, some (.int (iZ (co q' 2))), some (.int (iZ (co q' 3))), some (.int (iN p)), x8] [] h R ↔ qEv d 4 qk_14 34 [some (.ref 19), some (.int (iZ (co q' 0))), some (.int (iZ (co q' 1))), y2, y3, some (.int (iZ (co q' 2))), some (.int (iZ (co q' 3))), some (.int (iN m)), y8] [] h R) := by
    intro w
    induction w with
    | zero => intro p x8 hp _; rw [show p = m by omega]; exact ⟨x8, fun R => Iff.rfl⟩
    | succ w ih =>
      intro p x8 hp hn
      obtain ⟨y8, ry⟩ := next p x8 (by omega) (hn p (by omega))
      obtain ⟨z8, rz⟩ := ih (p + 1) y8 (by omega) hn
      exact ⟨z8, fun R => (ry R).trans (rz R)⟩
  have memt : ∀ t, t < l.length → l.getD t z4 ∈ l := fun t ht => by rw [lP_at ht]; exact List.getElem_mem ht
  by_cases hin : ∃ t, t < m ∧ l.getD t z4 = q'
  · obtain ⟨t, t1, t2⟩ := hin
    refine ⟨h, fun R => ?_, ChX.refl s, ?_⟩
    · rw [r0 R]
      exact go m 0 none (by omega) ⟨t, Nat.zero_le _, t1, t2⟩ R
    · have : q' ∈ l := by rw [← t2]; exact memt t (by omega)
      unfold addP
      rw [if_pos this]
      exact ⟨v3, by rw [← em]; exact v1, v2, vp⟩
  · have hn : ∀ t, t < m → l.getD t z4 ≠ q' := fun t ht e => hin ⟨t, ht, e⟩
    obtain ⟨y8, ry⟩ := gone' m 0 none (by omega) hn
    by_cases full : l.length < 16
    · have eml : m = l.length := by rw [em, if_pos full]
      have nin : q' ∉ l := fun z => by
        obtain ⟨t, ht, e⟩ := List.getElem_of_mem z
        exact hn t (by omega) (by rw [lP_at ht]; exact e)
      obtain ⟨G, eG⟩ : ∃ G, G = upd (upd (upd (upd (hi h 20) (m * 4) (iZ (co q' 0))) (m * 4 + 1) (iZ (co q' 1))) (m * 4 + 2) (iZ (co q' 2))) (m * 4 + 3) (iZ (co q' 3)) := ⟨_, rfl⟩
      have k20 := kX_20 s
      have cR : ∀ G, ChX [20] [(19, 1), (19, 2)] 0 h (sI h 20 G) := fun G => ChX.rowI s k20 (by decide) (by decide)
      have sh : ∀ G, ShX (sI h 20 G) := fun G => (cR G).sh
      have sG := sh G
      have xs : ∀ G, xi (sI h 20 G) 19 1 = iN m := fun G => by unfold xi; rw [hf_sI k20]; exact v1
      obtain ⟨h5, e5⟩ : ∃ h5, h5 = xV (sI h 20 G) 19 1 (.int (iN (m + 1))) := ⟨_, rfl⟩
      have cI : ChX [20] [(19, 1), (19, 2)] 0 h h5 := (cR G).trans0 (by rw [e5]; exact ChX.setI sG (by decide) (by decide))
      have p5 : qput (sI h 20 G) 19 2 1 (.int (iN (m + 1))) = some h5 := by rw [e5]; exact pX_19_1 sG
      have hx5 : ∀ j, j ≠ 1 → xi h5 19 j = xi h 19 j := fun j hj => by rw [e5, xi_xV, if_neg (fun z => hj z.2)]; unfold xi; rw [hf_sI k20]
      unfold addP
      rw [if_neg nin]
      refine ⟨h5, fun R => ?_, cI, by rw [hx5 3 (by decide)]; exact v3, ?_, ?_, fun p hp p16 k hk => ?_⟩
      · rw [r0 R, ry R, e14_34]
        simp (disch := first | assumption | omega | exact sh _) only [e14_0, e14_1, e14_4, e14_5, e14_8, e14_9, e14_12, e14_13, e14_15, e14_16, e14_19, e14_20, e14_23, e14_25, e14_28, e14_29, e14_31, e14_32, e14_36, e14_37, e14_40, e14_43, e14_45, e14_46, e14_47, e14_49, e14_50, e14_53, e14_55, e14_56, e14_57, e14_60, e14_61, e14_64, e14_66, e14_67, e14_68, e14_69, e14_70, e14_73, e14_74, e14_77, e14_79, e14_80, e14_81, e14_82, e14_84, e14_87, e14_88, e14_91, e14_93, e14_94, e14_95, e14_96, e14_98, e14_101, e14_102, e14_105, e14_108, e14_109, e14_112, e14_114, e14_117, e14_118, e14_119, e14_122, e14_123, e14_124, e14_127, e14_128, e14_129, e14_131, e14_132, e14_135, e14_137, e14_138, e14_139, e14_140, e14_143, e14_145, e14_146, e14_147, e14_148, e14_149, e14_150, e14_153, e14_155, e14_156, e14_157, e14_159, e14_160, e14_161, e14_164, e14_166, e14_167, e14_168, e14_170, e14_171, e14_172, e14_173, e14_176, e14_177, e14_178, e14_181, m14, ↓reduceIte, qg_0, qg_1, qg_2, qg_3, qg_4, qg_5, qg_6, qg_7, qg_8, qg_9, qg_10, qg_11, qg_12, qg_13, not_true_eq_false, not_false_eq_true, Nat.reduceBEq, Bool.false_eq_true, ex1, ex3, ex4, exF, qfit_i, qfit_l, qfit_r, qfit_n, qfit_b0, qfit_b1, qcat_i, qcat_r, qcat_n, qcat_l, qroom_0, qroom_c, List.map_cons, List.map_nil, List.sum_cons, List.sum_nil, Nat.reduceAdd, Nat.reduceMul, Nat.reduceLT, Nat.reduceLeDiff, Nat.reduceEqDiff, Nat.reduceSub, decide_true, true_and, and_true, and_self, if_true, if_false, Option.toList_some, Option.toList_none, List.cons_append, List.nil_append, qsL, qlong, List.length_cons, List.length_nil, iN_L, exI, iN_add, iN_mul, iN_le, iN_lt, Nat.le_refl, gX_19_1, gX_19_0, v1, show m < 16 by omega, wX_20, hi_sI, sI_sI, ← eG, xs, p5, uX_19, vX_19]
      · rw [e5, xi_xV, if_pos ⟨rfl, rfl⟩, List.length_append]
        show iN (m + 1) = iN (if l.length + 1 < 16 then l.length + 1 else 16)
        congr 1
        split <;> omega
      · rw [hx5 2 (by decide), v2, List.length_append]
        show bB (decide (16 < l.length)) = bB (decide (16 < l.length + 1))
        rw [decide_eq_false (by omega), decide_eq_false (by omega)]
      · rw [List.length_append] at hp
        have hp' : p < l.length + 1 := hp
        rw [lP_last hp' k, e5, hi_xV (oX_19 sG), hi_sI, if_pos rfl, eG]
        show (if 4 * p + k = m * 4 + 3 then iZ (co q' 3) else if 4 * p + k = m * 4 + 2 then iZ (co q' 2) else if 4 * p + k = m * 4 + 1 then iZ (co q' 1) else if 4 * p + k = m * 4 then iZ (co q' 0) else hi h 20 (4 * p + k)) = _ ∧ _
        by_cases e : p = l.length
        · rw [if_pos e, e]
          refine ⟨?_, qb k hk⟩
          match k, hk with
          | 0, _ => rw [if_neg (by omega), if_neg (by omega), if_neg (by omega), if_pos (by omega)]
          | 1, _ => rw [if_neg (by omega), if_neg (by omega), if_pos (by omega)]
          | 2, _ => rw [if_neg (by omega), if_pos (by omega)]
          | 3, _ => rw [if_pos (by omega)]
        · rw [if_neg e, if_neg (by omega), if_neg (by omega), if_neg (by omega), if_neg (by omega)]
          exact vp p (by omega) p16 k hk
    · have em16 : m = 16 := by rw [em, if_neg full]
      obtain ⟨h5, e5⟩ : ∃ h5, h5 = xV h 19 2 (.int (iN 1)) := ⟨_, rfl⟩
      have cI : ChX [20] [(19, 1), (19, 2)] 0 h h5 := by rw [e5]; exact ChX.setI s (by decide) (by decide)
      have p5 : qput h 19 2 2 (.int (iN 1)) = some h5 := by rw [e5]; exact pX_19_2 s
      have hx5 : ∀ j, j ≠ 2 → xi h5 19 j = xi h 19 j := fun j hj => by rw [e5, xi_xV, if_neg (fun z => hj z.2)]
      have hi5 : hi h5 20 = hi h 20 := by rw [e5, hi_xV (oX_19 s)]
      have run : ∀ R, qMC (d + 1) 14 [.ref 19, .int (iZ q.1), .int (iZ q.2.1), .int (iZ q.2.2.1), .int (iZ q.2.2.2)] h R ↔ R = (none, h5) := fun R => by
        rw [em16] at ry v1
        rw [r0 R, ry R, e14_34]
        simp (disch := first | assumption | omega) only [e14_0, e14_1, e14_4, e14_5, e14_8, e14_9, e14_12, e14_13, e14_15, e14_16, e14_19, e14_20, e14_23, e14_25, e14_28, e14_29, e14_31, e14_32, e14_36, e14_37, e14_40, e14_43, e14_45, e14_46, e14_47, e14_49, e14_50, e14_53, e14_55, e14_56, e14_57, e14_60, e14_61, e14_64, e14_66, e14_67, e14_68, e14_69, e14_70, e14_73, e14_74, e14_77, e14_79, e14_80, e14_81, e14_82, e14_84, e14_87, e14_88, e14_91, e14_93, e14_94, e14_95, e14_96, e14_98, e14_101, e14_102, e14_105, e14_108, e14_109, e14_112, e14_114, e14_117, e14_118, e14_119, e14_122, e14_123, e14_124, e14_127, e14_128, e14_129, e14_131, e14_132, e14_135, e14_137, e14_138, e14_139, e14_140, e14_143, e14_145, e14_146, e14_147, e14_148, e14_149, e14_150, e14_153, e14_155, e14_156, e14_157, e14_159, e14_160, e14_161, e14_164, e14_166, e14_167, e14_168, e14_170, e14_171, e14_172, e14_173, e14_176, e14_177, e14_178, e14_181, m14, ↓reduceIte, qg_0, qg_1, qg_2, qg_3, qg_4, qg_5, qg_6, qg_7, qg_8, qg_9, qg_10, qg_11, qg_12, qg_13, not_true_eq_false, not_false_eq_true, Nat.reduceBEq, Bool.false_eq_true, ex1, ex3, ex4, exF, qfit_i, qfit_l, qfit_r, qfit_n, qfit_b0, qfit_b1, qcat_i, qcat_r, qcat_n, qcat_l, qroom_0, qroom_c, List.map_cons, List.map_nil, List.sum_cons, List.sum_nil, Nat.reduceAdd, Nat.reduceMul, Nat.reduceLT, Nat.reduceLeDiff, Nat.reduceEqDiff, Nat.reduceSub, decide_true, true_and, and_true, and_self, if_true, if_false, Option.toList_some, Option.toList_none, List.cons_append, List.nil_append, qsL, qlong, List.length_cons, List.length_nil, iN_L, exI, iN_add, iN_mul, iN_le, iN_lt, iN_eq, Nat.le_refl, qfN0, qfN1, uX_16, vX_16, uX_19, vX_19, uX_27, vX_27, uX_30, vX_30, uX_39, vX_39, uX_41, vX_41, uX_43, vX_43, uX_46, vX_46, uX_50, vX_50, uX_53, vX_53, gX_19_1, v1, p5]
      -- there were more than 16 in the end
      have gt : 16 < (addP l q').length := by
        unfold addP
        by_cases z : q' ∈ l
        · rw [if_pos z]
          obtain ⟨t, ht, e⟩ := List.getElem_of_mem z
          rcases Nat.lt_or_ge t 16 with y | y
          · exact absurd (show l.getD t z4 = q' by rw [lP_at ht]; exact e) (hn t (by omega))
          · omega
        · rw [if_neg z, List.length_append]
          show 16 < l.length + 1
          omega
      have lp : ∀ p, p < 16 → ∀ k, lP (addP l q') p k = lP l p k := fun p hp k => by
        unfold addP
        by_cases z : q' ∈ l
        · rw [if_pos z]
        · rw [if_neg z, lP_last (by omega) k, if_neg (by omega)]
      refine ⟨h5, run, cI, by rw [hx5 3 (by decide)]; exact v3, by rw [hx5 1 (by decide), v1, em16, if_neg (by omega)], by rw [decide_eq_true gt, e5, xi_xV, if_pos ⟨rfl, rfl⟩]; rfl, fun p hp p16 k hk => ?_⟩
      rw [hi5, lp p p16 k]
      exact vp p (by omega) p16 k hk
end XTELL

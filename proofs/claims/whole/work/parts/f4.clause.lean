/-! ===== THE REFERENCE: readClause ===== -/
section CLAUSER
variable {d : Nat} {h : qH} {tx : List Nat}
set_option maxRecDepth 100000 in
set_option maxHeartbeats 16000000 in
theorem rl_rows {c k : Nat} {f n4 : Int32} {x1 : Option Value} (s : ShM h) (m56 : mi h 56 = iN c) (hc : 3 * c + 2 < 480) : ∃ h', (∀ R, qEv (d + 4) 0 qk_301 104 [some (.ref 55), x1, some (.int (iN k)), some (.int f), some (.int n4)] [] h R ↔ qEv (d + 4) 0 qk_301 136 [some (.ref 55), x1, some (.int (iN k)), some (.int f), some (.int n4)] [] h' R) ∧ Ch [95] [] h h' ∧ ∀ j, hi h' 95 j = if j = 3 * c + 2 then mi h 62 else if j = 3 * c + 1 then n4 else hi h 95 j := by
  obtain ⟨g1, eg1⟩ : ∃ g1, g1 = sI h 95 (upd (hi h 95) (3 * c + 1) n4) := ⟨_, rfl⟩
  have c1 : Ch [95] [] h g1 := by rw [eg1]; exact Ch.rowI s (kM_95 s) (by decide)
  have s1 := c1.sh
  have w1 : qiast h 95 (iN (3 * c + 1)) n4 = some g1 := by rw [eg1]; exact wM_95 s (by omega)
  have mm1 : ∀ j, mi g1 j = mi h j := fun j => by rw [eg1, mi_sI (kM_95 s)]
  obtain ⟨g2, eg2⟩ : ∃ g2, g2 = sI g1 95 (upd (hi g1 95) (3 * c + 2) (mi h 62)) := ⟨_, rfl⟩
  have c2 : Ch [95] [] h g2 := c1.trans (by rw [eg2]; exact Ch.rowI s1 (kM_95 s1) (by decide))
  have w2 : qiast g1 95 (iN (3 * c + 2)) (mi h 62) = some g2 := by rw [eg2]; exact wM_95 s1 (by omega)
  have m56b : mi g1 56 = iN c := by rw [mm1]; exact m56
  have m62b : mi g1 62 = mi h 62 := mm1 62
  refine ⟨g2, fun R => ?_, c2, fun j => by rw [eg2, hi_sI, if_pos rfl, upd_at, eg1, hi_sI, if_pos rfl, upd_at]⟩
  rw [e301_104]
  simp (disch := first | assumption | omega) only [e301_0, e301_1, e301_4, e301_5, e301_8, e301_9, e301_10, e301_13, e301_14, e301_15, e301_18, e301_19, e301_20, e301_21, e301_24, e301_27, e301_28, e301_29, e301_30, e301_33, e301_36, e301_37, e301_38, e301_39, e301_40, e301_43, e301_44, e301_45, e301_48, e301_49, e301_52, e301_53, e301_54, e301_55, e301_58, e301_59, e301_60, e301_63, e301_65, e301_66, e301_67, e301_70, e301_71, e301_74, e301_75, e301_78, e301_81, e301_82, e301_83, e301_86, e301_87, e301_90, e301_91, e301_93, e301_94, e301_95, e301_97, e301_100, e301_103, e301_105, e301_108, e301_109, e301_110, e301_113, e301_114, e301_115, e301_116, e301_118, e301_119, e301_120, e301_123, e301_124, e301_125, e301_128, e301_129, e301_130, e301_131, e301_132, e301_135, e301_137, e301_140, e301_141, e301_142, e301_143, e301_146, e301_148, e301_151, e301_152, e301_153, e301_154, e301_157, e301_160, e301_161, e301_162, e301_163, e301_166, e301_167, e301_168, e301_171, e301_172, e301_175, e301_176, e301_177, e301_180, e301_181, e301_182, e301_183, e301_184, e301_185, e301_188, e301_189, e301_190, e301_193, e301_194, m301, ↓reduceIte, qg_0, qg_1, qg_2, qg_3, qg_4, qg_5, qg_6, qg_7, qg_8, qg_9, qg_10, qg_11, qg_12, qg_13, not_true_eq_false, not_false_eq_true, Nat.reduceBEq, Bool.false_eq_true, ex1, ex3, ex4, exF, qfit_i, qfit_l, qfit_r, qfit_n, qfit_b0, qfit_b1, qcat_i, qcat_r, qcat_n, qcat_l, qroom_0, qroom_c, List.map_cons, List.map_nil, List.sum_cons, List.sum_nil, Nat.reduceAdd, Nat.reduceMul, Nat.reduceLT, Nat.reduceLeDiff, Nat.reduceEqDiff, Nat.reduceSub, decide_true, true_and, and_true, and_self, if_true, if_false, Option.toList_some, Option.toList_none, List.cons_append, List.nil_append, qsL, qlong, List.length_cons, List.length_nil, iN_L, vM1, vM2, exI, iN_add, iN_mul, iN_le, iN_lt, iN_eq, Nat.le_refl, qfN0, qfN1, gM_57, gM_56, m56, w1, m56b, gM_62, m62b, w2]
theorem w_of411 : (411 : Int64) = lZ (wcA 0 w_of) := rfl
theorem rMost_b {n : Nat} : rMost n ≤ 16 := by unfold rMost; split; omega; split <;> omega
set_option maxRecDepth 100000 in
set_option maxHeartbeats 16000000 in
theorem rl_shape {a c k fr : Nat} (s : ShM h) (t : TxV h tx) (ha : a ≤ tx.length) (m : mi h 53 = iN a) (m56 : mi h 56 = iN c) (hc : 3 * c + 2 < 480) (hk : k ≤ 3) : ∃ h' r y4, (∀ R, qEv (d + 4) 0 qk_301 52 [some (.ref 55), some (.int (iN fr)), some (.int (iN k)), some (.int (iN 0)), none] [] h R ↔ qEv (d + 4) 0 qk_301 136 [some (.ref 55), some (.int (iN fr)), some (.int (iN k)), some (.int r), y4] [] h' R) ∧ Ch [95] [52, 53, 60, 61, 62] h h' ∧ rdQ h h' r (pShp tx a k) (fun q => mi h' 53 = iN q.1 ∧ hi h' 95 (3 * c + 1) = iN q.2.1 ∧ (k = 3 → hi h' 95 (3 * c + 2) = iN q.2.2)) ∧ ∀ j, j ≠ 3 * c + 1 → j ≠ 3 * c + 2 → hi h' 95 j = hi h 95 j := by
  obtain ⟨g1, r, r1, c1, z⟩ := s_readNumber (d := d + 2) (lo := 2) (hi' := 4) s t ha m (by omega) (by omega)
  have s1 := c1.sh
  have t1 := t.ch c1 (by decide) (by decide)
  have k56 : mi g1 56 = iN c := by rw [c1.mi (by decide)]; exact m56
  unfold pShp
  cases e : pNum tx a 2 4 with
  | inl f =>
    obtain ⟨z1, z2, z3⟩ := rdQ_l z e
    subst z1
    obtain ⟨g2, r2, c2, o2⟩ := rl_rows (d := d) (k := k) (f := iN f.1) (n4 := mi g1 62) (x1 := some (.int (iN fr))) s1 k56 hc
    refine ⟨g2, iN f.1, some (.int (mi g1 62)), fun R => ?_, (c1.mono (by decide) (by decide)).trans (c2.mono (by decide) (by decide)), ⟨rfl, z2, by rw [c2.mi (by decide)]; exact z3⟩, fun j h1 h2 => by rw [o2, if_neg h2, if_neg h1, c1.hi (by decide) (by decide)]⟩
    rw [← r2 R, e301_52]
    by_cases q : k = 3
    · subst q
      simp (disch := first | assumption | omega) only [e301_0, e301_1, e301_4, e301_5, e301_8, e301_9, e301_10, e301_13, e301_14, e301_15, e301_18, e301_19, e301_20, e301_21, e301_24, e301_27, e301_28, e301_29, e301_30, e301_33, e301_36, e301_37, e301_38, e301_39, e301_40, e301_43, e301_44, e301_45, e301_48, e301_49, e301_53, e301_54, e301_55, e301_58, e301_59, e301_60, e301_63, e301_65, e301_66, e301_67, e301_70, e301_71, e301_74, e301_75, e301_78, e301_81, e301_82, e301_83, e301_86, e301_87, e301_90, e301_91, e301_93, e301_94, e301_95, e301_97, e301_100, e301_103, e301_105, e301_108, e301_109, e301_110, e301_113, e301_114, e301_115, e301_116, e301_118, e301_119, e301_120, e301_123, e301_124, e301_125, e301_128, e301_129, e301_130, e301_131, e301_132, e301_135, e301_136, e301_137, e301_140, e301_141, e301_142, e301_143, e301_146, e301_148, e301_151, e301_152, e301_153, e301_154, e301_157, e301_160, e301_161, e301_162, e301_163, e301_166, e301_167, e301_168, e301_171, e301_172, e301_175, e301_176, e301_177, e301_180, e301_181, e301_182, e301_183, e301_184, e301_185, e301_188, e301_189, e301_190, e301_193, e301_194, m301, ↓reduceIte, qg_0, qg_1, qg_2, qg_3, qg_4, qg_5, qg_6, qg_7, qg_8, qg_9, qg_10, qg_11, qg_12, qg_13, not_true_eq_false, not_false_eq_true, Nat.reduceBEq, Bool.false_eq_true, ex1, ex3, ex4, exF, qfit_i, qfit_l, qfit_r, qfit_n, qfit_b0, qfit_b1, qcat_i, qcat_r, qcat_n, qcat_l, qroom_0, qroom_c, List.map_cons, List.map_nil, List.sum_cons, List.sum_nil, Nat.reduceAdd, Nat.reduceMul, Nat.reduceLT, Nat.reduceLeDiff, Nat.reduceEqDiff, Nat.reduceSub, decide_true, true_and, and_true, and_self, if_true, if_false, Option.toList_some, Option.toList_none, List.cons_append, List.nil_append, qsL, qlong, List.length_cons, List.length_nil, iN_L, vM1, vM2, exI, iN_add, iN_mul, iN_le, iN_lt, iN_eq, Nat.le_refl, qfN0, qfN1, r1, gM_62, show ¬ f.1 = 0 by omega]
    · simp (disch := first | assumption | omega) only [e301_0, e301_1, e301_4, e301_5, e301_8, e301_9, e301_10, e301_13, e301_14, e301_15, e301_18, e301_19, e301_20, e301_21, e301_24, e301_27, e301_28, e301_29, e301_30, e301_33, e301_36, e301_37, e301_38, e301_39, e301_40, e301_43, e301_44, e301_45, e301_48, e301_49, e301_53, e301_54, e301_55, e301_58, e301_59, e301_60, e301_63, e301_65, e301_66, e301_67, e301_70, e301_71, e301_74, e301_75, e301_78, e301_81, e301_82, e301_83, e301_86, e301_87, e301_90, e301_91, e301_93, e301_94, e301_95, e301_97, e301_100, e301_103, e301_105, e301_108, e301_109, e301_110, e301_113, e301_114, e301_115, e301_116, e301_118, e301_119, e301_120, e301_123, e301_124, e301_125, e301_128, e301_129, e301_130, e301_131, e301_132, e301_135, e301_136, e301_137, e301_140, e301_141, e301_142, e301_143, e301_146, e301_148, e301_151, e301_152, e301_153, e301_154, e301_157, e301_160, e301_161, e301_162, e301_163, e301_166, e301_167, e301_168, e301_171, e301_172, e301_175, e301_176, e301_177, e301_180, e301_181, e301_182, e301_183, e301_184, e301_185, e301_188, e301_189, e301_190, e301_193, e301_194, m301, ↓reduceIte, qg_0, qg_1, qg_2, qg_3, qg_4, qg_5, qg_6, qg_7, qg_8, qg_9, qg_10, qg_11, qg_12, qg_13, not_true_eq_false, not_false_eq_true, Nat.reduceBEq, Bool.false_eq_true, ex1, ex3, ex4, exF, qfit_i, qfit_l, qfit_r, qfit_n, qfit_b0, qfit_b1, qcat_i, qcat_r, qcat_n, qcat_l, qroom_0, qroom_c, List.map_cons, List.map_nil, List.sum_cons, List.sum_nil, Nat.reduceAdd, Nat.reduceMul, Nat.reduceLT, Nat.reduceLeDiff, Nat.reduceEqDiff, Nat.reduceSub, decide_true, true_and, and_true, and_self, if_true, if_false, Option.toList_some, Option.toList_none, List.cons_append, List.nil_append, qsL, qlong, List.length_cons, List.length_nil, iN_L, vM1, vM2, exI, iN_add, iN_mul, iN_le, iN_lt, iN_eq, Nat.le_refl, qfN0, qfN1, r1, gM_62, q]
  | inr q =>
    obtain ⟨z1, z2, z3, z4⟩ := rdQ_r z e
    subst z1
    obtain ⟨n1, n2, n3, n4, -⟩ := pNum_ok ha e
    by_cases q3 : k = 3
    · subst q3
      obtain ⟨g2, r', r2, c2, y⟩ := s_needs (d := d + 1) (w := w_of) s1 t1 n2 z3 (by decide) (by decide)
      have s2 := c2.sh
      have t2 := t1.ch c2 (by decide) (by decide)
      have k56b : mi g2 56 = iN c := by rw [c2.mi (by decide)]; exact k56
      cases e2 : pWrd tx q.1 w_of with
      | inl f =>
        obtain ⟨y1, y2, y3⟩ := rdQ_l y e2
        subst y1
        obtain ⟨g3, r3, c3, o3⟩ := rl_rows (d := d) (k := 3) (f := iN f.1) (n4 := iN q.2) (x1 := some (.int (iN fr))) s2 k56b hc
        refine ⟨g3, iN f.1, some (.int (iN q.2)), fun R => ?_, ((c1.mono (by decide) (by decide)).trans (c2.mono (by decide) (by decide))).trans (c3.mono (by decide) (by decide)), ?_, fun j h1 h2 => by rw [o3, if_neg h2, if_neg h1, c2.hi (by decide) (by decide), c1.hi (by decide) (by decide)]⟩
        · rw [← r3 R, e301_52]
          simp (disch := first | assumption | omega) only [e301_0, e301_1, e301_4, e301_5, e301_8, e301_9, e301_10, e301_13, e301_14, e301_15, e301_18, e301_19, e301_20, e301_21, e301_24, e301_27, e301_28, e301_29, e301_30, e301_33, e301_36, e301_37, e301_38, e301_39, e301_40, e301_43, e301_44, e301_45, e301_48, e301_49, e301_53, e301_54, e301_55, e301_58, e301_59, e301_60, e301_63, e301_65, e301_66, e301_67, e301_70, e301_71, e301_74, e301_75, e301_78, e301_81, e301_82, e301_83, e301_86, e301_87, e301_90, e301_91, e301_93, e301_94, e301_95, e301_97, e301_100, e301_103, e301_105, e301_108, e301_109, e301_110, e301_113, e301_114, e301_115, e301_116, e301_118, e301_119, e301_120, e301_123, e301_124, e301_125, e301_128, e301_129, e301_130, e301_131, e301_132, e301_135, e301_136, e301_137, e301_140, e301_141, e301_142, e301_143, e301_146, e301_148, e301_151, e301_152, e301_153, e301_154, e301_157, e301_160, e301_161, e301_162, e301_163, e301_166, e301_167, e301_168, e301_171, e301_172, e301_175, e301_176, e301_177, e301_180, e301_181, e301_182, e301_183, e301_184, e301_185, e301_188, e301_189, e301_190, e301_193, e301_194, m301, ↓reduceIte, qg_0, qg_1, qg_2, qg_3, qg_4, qg_5, qg_6, qg_7, qg_8, qg_9, qg_10, qg_11, qg_12, qg_13, not_true_eq_false, not_false_eq_true, Nat.reduceBEq, Bool.false_eq_true, ex1, ex3, ex4, exF, qfit_i, qfit_l, qfit_r, qfit_n, qfit_b0, qfit_b1, qcat_i, qcat_r, qcat_n, qcat_l, qroom_0, qroom_c, List.map_cons, List.map_nil, List.sum_cons, List.sum_nil, Nat.reduceAdd, Nat.reduceMul, Nat.reduceLT, Nat.reduceLeDiff, Nat.reduceEqDiff, Nat.reduceSub, decide_true, true_and, and_true, and_self, if_true, if_false, Option.toList_some, Option.toList_none, List.cons_append, List.nil_append, qsL, qlong, List.length_cons, List.length_nil, iN_L, vM1, vM2, exI, iN_add, iN_mul, iN_le, iN_lt, iN_eq, Nat.le_refl, qfN0, qfN1, r1, gM_62, z4, w_of411, r2, show ¬ f.1 ≤ 0 by omega]
        · show rdQ h g3 _ (pB (pWrd tx q.1 w_of) _) _
          rw [e2]
          exact ⟨rfl, y2, by rw [c3.mi (by decide)]; exact y3⟩
      | inr p2 =>
        obtain ⟨y1, y2, y3⟩ := rdQ_r y e2
        subst y1
        obtain ⟨-, p2b⟩ := pWrd_ok n2 e2
        have rb := rMost_b (n := q.2)
        obtain ⟨g3, r'', r3, c3, x⟩ := s_readNumber (d := d + 2) (lo := q.2 + 1) (hi' := rMost q.2) s2 t2 p2b y3 (by omega) (by omega)
        have s3 := c3.sh
        have k56c : mi g3 56 = iN c := by rw [c3.mi (by decide)]; exact k56b
        have rm : ∀ R, qMC (d + 4) 299 [.int (iN q.2)] g2 R ↔ R = (some (.int (iN (rMost q.2))), g2) := fun R => s_roundMost (by omega)
        obtain ⟨g4, r4, c4, o4⟩ := rl_rows (d := d) (k := 3) (f := r'') (n4 := iN q.2) (x1 := some (.int (iN fr))) s3 k56c hc
        refine ⟨g4, r'', some (.int (iN q.2)), fun R => ?_, (((c1.mono (by decide) (by decide)).trans (c2.mono (by decide) (by decide))).trans (c3.mono (by decide) (by decide))).trans (c4.mono (by decide) (by decide)), ?_, fun j h1 h2 => by rw [o4, if_neg h2, if_neg h1, c3.hi (by decide) (by decide), c2.hi (by decide) (by decide), c1.hi (by decide) (by decide)]⟩
        · rw [← r4 R, e301_52]
          simp (disch := first | assumption | omega) only [e301_0, e301_1, e301_4, e301_5, e301_8, e301_9, e301_10, e301_13, e301_14, e301_15, e301_18, e301_19, e301_20, e301_21, e301_24, e301_27, e301_28, e301_29, e301_30, e301_33, e301_36, e301_37, e301_38, e301_39, e301_40, e301_43, e301_44, e301_45, e301_48, e301_49, e301_53, e301_54, e301_55, e301_58, e301_59, e301_60, e301_63, e301_65, e301_66, e301_67, e301_70, e301_71, e301_74, e301_75, e301_78, e301_81, e301_82, e301_83, e301_86, e301_87, e301_90, e301_91, e301_93, e301_94, e301_95, e301_97, e301_100, e301_103, e301_105, e301_108, e301_109, e301_110, e301_113, e301_114, e301_115, e301_116, e301_118, e301_119, e301_120, e301_123, e301_124, e301_125, e301_128, e301_129, e301_130, e301_131, e301_132, e301_135, e301_136, e301_137, e301_140, e301_141, e301_142, e301_143, e301_146, e301_148, e301_151, e301_152, e301_153, e301_154, e301_157, e301_160, e301_161, e301_162, e301_163, e301_166, e301_167, e301_168, e301_171, e301_172, e301_175, e301_176, e301_177, e301_180, e301_181, e301_182, e301_183, e301_184, e301_185, e301_188, e301_189, e301_190, e301_193, e301_194, m301, ↓reduceIte, qg_0, qg_1, qg_2, qg_3, qg_4, qg_5, qg_6, qg_7, qg_8, qg_9, qg_10, qg_11, qg_12, qg_13, not_true_eq_false, not_false_eq_true, Nat.reduceBEq, Bool.false_eq_true, ex1, ex3, ex4, exF, qfit_i, qfit_l, qfit_r, qfit_n, qfit_b0, qfit_b1, qcat_i, qcat_r, qcat_n, qcat_l, qroom_0, qroom_c, List.map_cons, List.map_nil, List.sum_cons, List.sum_nil, Nat.reduceAdd, Nat.reduceMul, Nat.reduceLT, Nat.reduceLeDiff, Nat.reduceEqDiff, Nat.reduceSub, decide_true, true_and, and_true, and_self, if_true, if_false, Option.toList_some, Option.toList_none, List.cons_append, List.nil_append, qsL, qlong, List.length_cons, List.length_nil, iN_L, vM1, vM2, exI, iN_add, iN_mul, iN_le, iN_lt, iN_eq, Nat.le_refl, qfN0, qfN1, r1, gM_62, z4, w_of411, r2, rm, r3]
        · show rdQ h g4 _ (pB (pWrd tx q.1 w_of) _) _
          rw [e2]
          show rdQ h g4 _ (pB (pNum tx p2 (q.2 + 1) (rMost q.2)) _) _
          cases e3 : pNum tx p2 (q.2 + 1) (rMost q.2) with
          | inl f =>
            obtain ⟨x1, x2, x3⟩ := rdQ_l x e3
            exact ⟨x1, x2, by rw [c4.mi (by decide)]; exact x3⟩
          | inr q3 =>
            obtain ⟨x1, x2, x3, x4⟩ := rdQ_r x e3
            exact ⟨x1, by rw [c4.mi (by decide), x2, y2, z2], by rw [c4.mi (by decide)]; exact x3, by rw [o4, if_neg (by omega), if_pos rfl], fun _ => by rw [o4, if_pos rfl]; exact x4⟩
    · obtain ⟨g2, r2, c2, o2⟩ := rl_rows (d := d) (k := k) (f := iN 0) (n4 := mi g1 62) (x1 := some (.int (iN fr))) s1 k56 hc
      refine ⟨g2, iN 0, some (.int (mi g1 62)), fun R => ?_, (c1.mono (by decide) (by decide)).trans (c2.mono (by decide) (by decide)), ?_, fun j h1 h2 => by rw [o2, if_neg h2, if_neg h1, c1.hi (by decide) (by decide)]⟩
      · rw [← r2 R, e301_52]
        simp (disch := first | assumption | omega) only [e301_0, e301_1, e301_4, e301_5, e301_8, e301_9, e301_10, e301_13, e301_14, e301_15, e301_18, e301_19, e301_20, e301_21, e301_24, e301_27, e301_28, e301_29, e301_30, e301_33, e301_36, e301_37, e301_38, e301_39, e301_40, e301_43, e301_44, e301_45, e301_48, e301_49, e301_53, e301_54, e301_55, e301_58, e301_59, e301_60, e301_63, e301_65, e301_66, e301_67, e301_70, e301_71, e301_74, e301_75, e301_78, e301_81, e301_82, e301_83, e301_86, e301_87, e301_90, e301_91, e301_93, e301_94, e301_95, e301_97, e301_100, e301_103, e301_105, e301_108, e301_109, e301_110, e301_113, e301_114, e301_115, e301_116, e301_118, e301_119, e301_120, e301_123, e301_124, e301_125, e301_128, e301_129, e301_130, e301_131, e301_132, e301_135, e301_136, e301_137, e301_140, e301_141, e301_142, e301_143, e301_146, e301_148, e301_151, e301_152, e301_153, e301_154, e301_157, e301_160, e301_161, e301_162, e301_163, e301_166, e301_167, e301_168, e301_171, e301_172, e301_175, e301_176, e301_177, e301_180, e301_181, e301_182, e301_183, e301_184, e301_185, e301_188, e301_189, e301_190, e301_193, e301_194, m301, ↓reduceIte, qg_0, qg_1, qg_2, qg_3, qg_4, qg_5, qg_6, qg_7, qg_8, qg_9, qg_10, qg_11, qg_12, qg_13, not_true_eq_false, not_false_eq_true, Nat.reduceBEq, Bool.false_eq_true, ex1, ex3, ex4, exF, qfit_i, qfit_l, qfit_r, qfit_n, qfit_b0, qfit_b1, qcat_i, qcat_r, qcat_n, qcat_l, qroom_0, qroom_c, List.map_cons, List.map_nil, List.sum_cons, List.sum_nil, Nat.reduceAdd, Nat.reduceMul, Nat.reduceLT, Nat.reduceLeDiff, Nat.reduceEqDiff, Nat.reduceSub, decide_true, true_and, and_true, and_self, if_true, if_false, Option.toList_some, Option.toList_none, List.cons_append, List.nil_append, qsL, qlong, List.length_cons, List.length_nil, iN_L, vM1, vM2, exI, iN_add, iN_mul, iN_le, iN_lt, iN_eq, Nat.le_refl, qfN0, qfN1, r1, gM_62, q3]
      · show rdQ h g2 _ (if k = 3 then _ else _) _
        rw [if_neg q3]
        exact ⟨rfl, by rw [c2.mi (by decide), z2], by rw [c2.mi (by decide)]; exact z3, by rw [o2, if_neg (by omega), if_pos rfl]; exact z4, fun w => absurd w q3⟩
set_option maxRecDepth 100000 in
theorem rl_f136 {f : Nat} {x1 x2 x4 : Option Value} (hk : 1 ≤ f ∧ f ≤ 3) (R : qRes) : qEv (d + 4) 0 qk_301 136 [some (.ref 55), x1, x2, some (.int (iN f)), x4] [] h R ↔ R = (some (.int (iN f)), h) := by
  rw [e301_136]
  simp (disch := first | assumption | omega) only [e301_0, e301_1, e301_4, e301_5, e301_8, e301_9, e301_10, e301_13, e301_14, e301_15, e301_18, e301_19, e301_20, e301_21, e301_24, e301_27, e301_28, e301_29, e301_30, e301_33, e301_36, e301_37, e301_38, e301_39, e301_40, e301_43, e301_44, e301_45, e301_48, e301_49, e301_52, e301_53, e301_54, e301_55, e301_58, e301_59, e301_60, e301_63, e301_65, e301_66, e301_67, e301_70, e301_71, e301_74, e301_75, e301_78, e301_81, e301_82, e301_83, e301_86, e301_87, e301_90, e301_91, e301_93, e301_94, e301_95, e301_97, e301_100, e301_103, e301_104, e301_105, e301_108, e301_109, e301_110, e301_113, e301_114, e301_115, e301_116, e301_118, e301_119, e301_120, e301_123, e301_124, e301_125, e301_128, e301_129, e301_130, e301_131, e301_132, e301_135, e301_137, e301_140, e301_141, e301_142, e301_143, e301_146, e301_148, e301_151, e301_152, e301_153, e301_154, e301_157, e301_160, e301_161, e301_162, e301_163, e301_166, e301_167, e301_168, e301_171, e301_172, e301_175, e301_176, e301_177, e301_180, e301_181, e301_182, e301_183, e301_184, e301_185, e301_188, e301_189, e301_190, e301_193, e301_194, m301, ↓reduceIte, qg_0, qg_1, qg_2, qg_3, qg_4, qg_5, qg_6, qg_7, qg_8, qg_9, qg_10, qg_11, qg_12, qg_13, not_true_eq_false, not_false_eq_true, Nat.reduceBEq, Bool.false_eq_true, ex1, ex3, ex4, exF, qfit_i, qfit_l, qfit_r, qfit_n, qfit_b0, qfit_b1, qcat_i, qcat_r, qcat_n, qcat_l, qroom_0, qroom_c, List.map_cons, List.map_nil, List.sum_cons, List.sum_nil, Nat.reduceAdd, Nat.reduceMul, Nat.reduceLT, Nat.reduceLeDiff, Nat.reduceEqDiff, Nat.reduceSub, decide_true, true_and, and_true, and_self, if_true, if_false, Option.toList_some, Option.toList_none, List.cons_append, List.nil_append, qsL, qlong, List.length_cons, List.length_nil, iN_L, vM1, vM2, exI, iN_add, iN_mul, iN_le, iN_lt, iN_eq, Nat.le_refl, qfN0, qfN1, show ¬ f ≤ 0 by omega]
set_option maxRecDepth 100000 in
set_option maxHeartbeats 16000000 in
theorem rl_end {a c k : Nat} {x1 x4 : Option Value} (s : ShM h) (t : TxV h tx) (ha : a ≤ tx.length) (m : mi h 53 = iN a) (m56 : mi h 56 = iN c) (hc : 3 * c + 2 < 480) : ∃ h' r, (∀ R, qEv (d + 4) 0 qk_301 136 [some (.ref 55), x1, some (.int (iN k)), some (.int (iN 0)), x4] [] h R ↔ R = (some (.int r), h')) ∧ Ch [95] [52, 53, 56] h h' ∧ rdQ h h' r (pChr tx a isSc) (fun q => mi h' 53 = iN q.1 ∧ mi h' 56 = iN (c + 1) ∧ hi h' 95 (3 * c) = iN k) ∧ ∀ j, j ≠ 3 * c → hi h' 95 j = hi h 95 j := by
  have t1 := t.1
  have hl := skp_le ha
  obtain ⟨g1, r1, c1, m1⟩ := s_here (d := d + 3) s t ha m
  have s1 := c1.sh
  have c1' : Ch [95] [52, 53, 56] h g1 := c1.mono (by decide) (by decide)
  have k52 : mi g1 52 = mi h 52 := c1.mi (by decide)
  have k56 : mi g1 56 = iN c := by rw [c1.mi (by decide)]; exact m56
  by_cases q : skp tx a < tx.length ∧ isSc (tx.getD (skp tx a) 0) = true
  · have q59 : tx.getD (skp tx a) 0 = 59 := by have := q.2; unfold isSc at this; rw [beq_iff_eq] at this; exact this
    have ev : hrV tx (skp tx a) = iN 59 := by unfold hrV; rw [if_pos q.1, q59]
    rw [ev] at r1
    have ep : pChr tx a isSc = .inr (skp tx a + 1, tx.getD (skp tx a) 0) := if_pos q
    obtain ⟨g3, eg3⟩ : ∃ g3, g3 = mI g1 53 (iN (skp tx a + 1)) := ⟨_, rfl⟩
    have c3 : Ch [95] [52, 53, 56] h g3 := c1'.trans (by rw [eg3]; exact Ch.setI s1 (by decide) (by decide))
    have s3 := c3.sh
    have p3 : qput g1 55 11 53 (.int (iN (skp tx a + 1))) = some g3 := by rw [eg3]; exact pM_53 s1
    have k56b : mi g3 56 = iN c := by rw [eg3, mi_mI, if_neg (by decide)]; exact k56
    obtain ⟨g4, eg4⟩ : ∃ g4, g4 = sI g3 95 (upd (hi g3 95) (3 * c) (iN k)) := ⟨_, rfl⟩
    have c4 : Ch [95] [52, 53, 56] h g4 := c3.trans (by rw [eg4]; exact Ch.rowI s3 (kM_95 s3) (by decide))
    have s4 := c4.sh
    have w4 : qiast g3 95 (iN (3 * c)) (iN k) = some g4 := by rw [eg4]; exact wM_95 s3 (by omega)
    have k56c : mi g4 56 = iN c := by rw [eg4, mi_sI (kM_95 s3)]; exact k56b
    obtain ⟨g5, eg5⟩ : ∃ g5, g5 = mI g4 56 (iN (c + 1)) := ⟨_, rfl⟩
    have c5 : Ch [95] [52, 53, 56] h g5 := c4.trans (by rw [eg5]; exact Ch.setI s4 (by decide) (by decide))
    have p5 : qput g4 55 11 56 (.int (iN (c + 1))) = some g5 := by rw [eg5]; exact pM_56 s4
    have m5 : ∀ j, mi g5 j = if j = 56 then iN (c + 1) else if j = 53 then iN (skp tx a + 1) else mi g1 j := fun j => by rw [eg5, mi_mI, eg4, mi_sI (kM_95 s3), eg3, mi_mI]
    have h5 : ∀ j, hi g5 95 j = if j = 3 * c then iN k else hi h 95 j := fun j => by rw [eg5, hi_mI s4, eg4, hi_sI, if_pos rfl, upd_at, eg3, hi_mI s1, c1.hi (by decide) (by decide)]
    refine ⟨g5, iN 0, fun R => ?_, c5, ?_, fun j hj => by rw [h5, if_neg hj]⟩
    · rw [e301_136]
      simp (disch := first | assumption | omega) only [e301_0, e301_1, e301_4, e301_5, e301_8, e301_9, e301_10, e301_13, e301_14, e301_15, e301_18, e301_19, e301_20, e301_21, e301_24, e301_27, e301_28, e301_29, e301_30, e301_33, e301_36, e301_37, e301_38, e301_39, e301_40, e301_43, e301_44, e301_45, e301_48, e301_49, e301_52, e301_53, e301_54, e301_55, e301_58, e301_59, e301_60, e301_63, e301_65, e301_66, e301_67, e301_70, e301_71, e301_74, e301_75, e301_78, e301_81, e301_82, e301_83, e301_86, e301_87, e301_90, e301_91, e301_93, e301_94, e301_95, e301_97, e301_100, e301_103, e301_104, e301_105, e301_108, e301_109, e301_110, e301_113, e301_114, e301_115, e301_116, e301_118, e301_119, e301_120, e301_123, e301_124, e301_125, e301_128, e301_129, e301_130, e301_131, e301_132, e301_135, e301_137, e301_140, e301_141, e301_142, e301_143, e301_146, e301_148, e301_151, e301_152, e301_153, e301_154, e301_157, e301_160, e301_161, e301_162, e301_163, e301_166, e301_167, e301_168, e301_171, e301_172, e301_175, e301_176, e301_177, e301_180, e301_181, e301_182, e301_183, e301_184, e301_185, e301_188, e301_189, e301_190, e301_193, e301_194, m301, ↓reduceIte, qg_0, qg_1, qg_2, qg_3, qg_4, qg_5, qg_6, qg_7, qg_8, qg_9, qg_10, qg_11, qg_12, qg_13, not_true_eq_false, not_false_eq_true, Nat.reduceBEq, Bool.false_eq_true, ex1, ex3, ex4, exF, qfit_i, qfit_l, qfit_r, qfit_n, qfit_b0, qfit_b1, qcat_i, qcat_r, qcat_n, qcat_l, qroom_0, qroom_c, List.map_cons, List.map_nil, List.sum_cons, List.sum_nil, Nat.reduceAdd, Nat.reduceMul, Nat.reduceLT, Nat.reduceLeDiff, Nat.reduceEqDiff, Nat.reduceSub, decide_true, true_and, and_true, and_self, if_true, if_false, Option.toList_some, Option.toList_none, List.cons_append, List.nil_append, qsL, qlong, List.length_cons, List.length_nil, iN_L, vM1, vM2, exI, iN_add, iN_mul, iN_le, iN_lt, iN_eq, Nat.le_refl, qfN0, qfN1, r1, gM_53, m1, p3, gM_57, gM_56, k56b, w4, k56c, p5]
    · rw [ep]
      exact ⟨rfl, by rw [m5, if_neg (by decide), if_neg (by decide)]; exact k52, by rw [m5, if_neg (by decide), if_pos rfl], by rw [m5, if_pos rfl], by rw [h5, if_pos rfl]⟩
  · have ep : pChr tx a isSc = .inl (1, skp tx a) := if_neg q
    obtain ⟨g3, eg3⟩ : ∃ g3, g3 = mI g1 52 (iN (skp tx a)) := ⟨_, rfl⟩
    have c3 : Ch [95] [52, 53, 56] h g3 := c1'.trans (by rw [eg3]; exact Ch.setI s1 (by decide) (by decide))
    have sf : ∀ R, qMC (d + 4) 293 [.ref 55, .int (iN 1), .int (iN (skp tx a))] g1 R ↔ R = (some (.int (iN 1)), g3) := fun R => by rw [eg3]; exact s_fails s1
    refine ⟨g3, iN 1, fun R => ?_, c3, ?_, fun j hj => by rw [eg3, hi_mI s1, c1.hi (by decide) (by decide)]⟩
    · have n1 : ¬ hrV tx (skp tx a) = iN 59 := by
        unfold hrV
        split
        · rename_i z
          have v2 := (t.2.2 _ z).2
          have nq : ¬ isSc (tx.getD (skp tx a) 0) = true := fun w => q ⟨z, w⟩
          unfold isSc at nq
          rw [beq_iff_eq] at nq
          rw [iN_eq (by omega) (by omega)]
          exact nq
        · decide
      rw [e301_136]
      simp (disch := first | assumption | omega) only [e301_0, e301_1, e301_4, e301_5, e301_8, e301_9, e301_10, e301_13, e301_14, e301_15, e301_18, e301_19, e301_20, e301_21, e301_24, e301_27, e301_28, e301_29, e301_30, e301_33, e301_36, e301_37, e301_38, e301_39, e301_40, e301_43, e301_44, e301_45, e301_48, e301_49, e301_52, e301_53, e301_54, e301_55, e301_58, e301_59, e301_60, e301_63, e301_65, e301_66, e301_67, e301_70, e301_71, e301_74, e301_75, e301_78, e301_81, e301_82, e301_83, e301_86, e301_87, e301_90, e301_91, e301_93, e301_94, e301_95, e301_97, e301_100, e301_103, e301_104, e301_105, e301_108, e301_109, e301_110, e301_113, e301_114, e301_115, e301_116, e301_118, e301_119, e301_120, e301_123, e301_124, e301_125, e301_128, e301_129, e301_130, e301_131, e301_132, e301_135, e301_137, e301_140, e301_141, e301_142, e301_143, e301_146, e301_148, e301_151, e301_152, e301_153, e301_154, e301_157, e301_160, e301_161, e301_162, e301_163, e301_166, e301_167, e301_168, e301_171, e301_172, e301_175, e301_176, e301_177, e301_180, e301_181, e301_182, e301_183, e301_184, e301_185, e301_188, e301_189, e301_190, e301_193, e301_194, m301, ↓reduceIte, qg_0, qg_1, qg_2, qg_3, qg_4, qg_5, qg_6, qg_7, qg_8, qg_9, qg_10, qg_11, qg_12, qg_13, not_true_eq_false, not_false_eq_true, Nat.reduceBEq, Bool.false_eq_true, ex1, ex3, ex4, exF, qfit_i, qfit_l, qfit_r, qfit_n, qfit_b0, qfit_b1, qcat_i, qcat_r, qcat_n, qcat_l, qroom_0, qroom_c, List.map_cons, List.map_nil, List.sum_cons, List.sum_nil, Nat.reduceAdd, Nat.reduceMul, Nat.reduceLT, Nat.reduceLeDiff, Nat.reduceEqDiff, Nat.reduceSub, decide_true, true_and, and_true, and_self, if_true, if_false, Option.toList_some, Option.toList_none, List.cons_append, List.nil_append, qsL, qlong, List.length_cons, List.length_nil, iN_L, vM1, vM2, exI, iN_add, iN_mul, iN_le, iN_lt, iN_eq, Nat.le_refl, qfN0, qfN1, r1, n1, gM_53, m1, sf]
    · rw [ep]
      exact ⟨rfl, by omega, by rw [eg3, mi_mI, if_pos rfl]⟩
/-- a clause in its row -/
def clsV (h : qH) (k : Nat) (c : cls4) : Prop := match c with
  | .inl (key, n, m) => hi h 95 (3 * k) = iN key ∧ hi h 95 (3 * k + 1) = iN n ∧ (key = 3 → hi h 95 (3 * k + 2) = iN m)
  | .inr _ => hi h 95 (3 * k) = iN 4
def l0c : cls4 := .inl (0, 0, 0)
def CcV (h : qH) (cs : List cls4) : Prop := mi h 56 = iN cs.length ∧ ∀ k, k < cs.length → clsV h k (cs.getD k l0c)
def clmOf : cls4 → List clm
  | .inl _ => []
  | .inr c => [c]
theorem clsV.keep {h' : qH} {k : Nat} {c : cls4} (v : clsV h k c) (e : ∀ j, j < 3 * k + 3 → hi h' 95 j = hi h 95 j) : clsV h' k c := by
  match c, v with
  | .inl (key, n, m), ⟨v1, v2, v3⟩ => exact ⟨by rw [e _ (by omega)]; exact v1, by rw [e _ (by omega)]; exact v2, fun w => by rw [e _ (by omega)]; exact v3 w⟩
  | .inr _, v => exact (e _ (by omega)).trans v
theorem CcV.snoc {h' : qH} {cs : List cls4} {c : cls4} (v : CcV h cs) (m : mi h' 56 = iN (cs.length + 1)) (v' : clsV h' cs.length c) (e : ∀ j, j < 3 * cs.length → hi h' 95 j = hi h 95 j) : CcV h' (cs ++ [c]) := by
  refine ⟨by rw [m, List.length_append, List.length_singleton], fun k hk => ?_⟩
  rw [List.length_append, List.length_singleton] at hk
  rw [getD_app]
  by_cases z : k < cs.length
  · rw [if_pos z]
    exact (v.2 k z).keep fun j hj => e j (by omega)
  · have z' : k = cs.length := by omega
    subst z'
    rw [if_neg z, if_pos rfl]
    exact v'
theorem FcV.keep {h' : qH} {l : List clm} (v : FcV h l) (e : hi h' 96 = hi h 96) (m : mi h' 58 = mi h 58) : FcV h' l := ⟨⟨v.1.1, fun k hk j hj => by rw [e]; exact v.1.2 k hk j hj⟩, by rw [m]; exact v.2⟩
set_option maxRecDepth 100000 in
set_option maxHeartbeats 16000000 in
theorem s_readClause {a cn : Nat} {fc : List clm} {cs : List cls4} (s : ShM h) (t : TxV h tx) (ha : a ≤ tx.length) (m : mi h 53 = iN a) (m54 : mi h 54 = iN cn) (v : FcV h fc) (h8 : cn + fc.length ≤ 8) (vc : CcV h cs) (hc : 3 * cs.length + 2 < 480) : ∃ h' r, (∀ R, qMC (d + 5) 301 [.ref 55] h R ↔ R = (some (.int r), h')) ∧ Ch [95, 96] [52, 53, 56, 58, 60, 61, 62] h h' ∧ rdQ h h' r (pCls tx a (cn + fc.length)) (fun q => mi h' 53 = iN q.1 ∧ CcV h' (cs ++ [q.2]) ∧ FcV h' (fc ++ clmOf q.2)) := by
  have t1 := t.1
  have hl := skp_le ha
  obtain ⟨g1, r1, c1, m53, m61, mw1⟩ := s_readWord (d := d + 2) s t ha m
  have s1 := c1.sh
  have c1' : Ch [95, 96] [52, 53, 56, 58, 60, 61, 62] h g1 := c1.mono (by decide) (by decide)
  have k52 : mi g1 52 = mi h 52 := c1.mi (by decide)
  have ky := fun R => s_keyOf (d := d + 2) (R := R) s1 mw1 tk_all
  have hw : skp tx a + (wdE tx (skp tx a)).length ≤ tx.length := tk_le hl
  cases ek : keyW (wdE tx (skp tx a)) with
  | none =>
    have ev : kyV (wdE tx (skp tx a)) = -iN 1 := by unfold kyV; rw [ek]
    rw [ev] at ky
    have ep : pCls tx a (cn + fc.length) = .inl (1, skp tx a) := by unfold pCls pCl0; rw [ek]; rfl
    obtain ⟨g3, eg3⟩ : ∃ g3, g3 = mI g1 52 (iN (skp tx a)) := ⟨_, rfl⟩
    have c3 : Ch [95, 96] [52, 53, 56, 58, 60, 61, 62] h g3 := c1'.trans (by rw [eg3]; exact Ch.setI s1 (by decide) (by decide))
    have sf : ∀ R, qMC (d + 4) 293 [.ref 55, .int (iN 1), .int (iN (skp tx a))] g1 R ↔ R = (some (.int (iN 1)), g3) := fun R => by rw [eg3]; exact s_fails s1
    refine ⟨g3, iN 1, fun R => ?_, c3, by rw [ep]; exact ⟨rfl, by omega, by rw [eg3, mi_mI, if_pos rfl]⟩⟩
    have q : ¬ iN 0 ≤ -iN 1 := by decide
    simp (disch := first | assumption | omega) only [e301_0, e301_1, e301_4, e301_5, e301_8, e301_9, e301_10, e301_13, e301_14, e301_15, e301_18, e301_19, e301_20, e301_21, e301_24, e301_27, e301_28, e301_29, e301_30, e301_33, e301_36, e301_37, e301_38, e301_39, e301_40, e301_43, e301_44, e301_45, e301_48, e301_49, e301_53, e301_54, e301_55, e301_58, e301_59, e301_60, e301_63, e301_65, e301_66, e301_67, e301_70, e301_71, e301_74, e301_75, e301_78, e301_81, e301_82, e301_83, e301_86, e301_87, e301_90, e301_91, e301_93, e301_94, e301_95, e301_97, e301_100, e301_103, e301_104, e301_105, e301_108, e301_109, e301_110, e301_113, e301_114, e301_115, e301_116, e301_118, e301_119, e301_120, e301_123, e301_124, e301_125, e301_128, e301_129, e301_130, e301_131, e301_132, e301_135, e301_137, e301_140, e301_141, e301_142, e301_143, e301_146, e301_148, e301_151, e301_152, e301_153, e301_154, e301_157, e301_160, e301_161, e301_162, e301_163, e301_166, e301_167, e301_168, e301_171, e301_172, e301_175, e301_176, e301_177, e301_180, e301_181, e301_182, e301_183, e301_184, e301_185, e301_188, e301_189, e301_190, e301_193, e301_194, m301, ↓reduceIte, qg_0, qg_1, qg_2, qg_3, qg_4, qg_5, qg_6, qg_7, qg_8, qg_9, qg_10, qg_11, qg_12, qg_13, not_true_eq_false, not_false_eq_true, Nat.reduceBEq, Bool.false_eq_true, ex1, ex3, ex4, exF, qfit_i, qfit_l, qfit_r, qfit_n, qfit_b0, qfit_b1, qcat_i, qcat_r, qcat_n, qcat_l, qroom_0, qroom_c, List.map_cons, List.map_nil, List.sum_cons, List.sum_nil, Nat.reduceAdd, Nat.reduceMul, Nat.reduceLT, Nat.reduceLeDiff, Nat.reduceEqDiff, Nat.reduceSub, decide_true, true_and, and_true, and_self, if_true, if_false, Option.toList_some, Option.toList_none, List.cons_append, List.nil_append, qsL, qlong, List.length_cons, List.length_nil, iN_L, vM1, vM2, exI, iN_add, iN_mul, iN_le, iN_lt, iN_eq, Nat.le_refl, qfN0, qfN1, r1, gM_53, m53, ky, q, sf]
  | some k =>
    have ev : kyV (wdE tx (skp tx a)) = iN k := by unfold kyV; rw [ek]
    rw [ev] at ky
    have k4 : k ≤ 4 ∧ (k = 4 → (wdE tx (skp tx a)).length = 5) := by
      unfold keyW at ek
      split at ek
      · cases ek; omega
      · split at ek
        · cases ek; omega
        · split at ek
          · cases ek; omega
          · split at ek
            · cases ek; omega
            · split at ek
              · rename_i z
                cases ek
                exact ⟨by omega, fun _ => by rw [z]; rfl⟩
              · cases ek
    obtain ⟨g2, eg2⟩ : ∃ g2, g2 = mI g1 53 (iN (skp tx a + (wdE tx (skp tx a)).length)) := ⟨_, rfl⟩
    have c2 : Ch [95, 96] [52, 53, 56, 58, 60, 61, 62] h g2 := c1'.trans (by rw [eg2]; exact Ch.setI s1 (by decide) (by decide))
    have s2 := c2.sh
    have t2 := t.ch c2 (by decide) (by decide)
    have p2 : qput g1 55 11 53 (.int (iN (skp tx a + (wdE tx (skp tx a)).length))) = some g2 := by rw [eg2]; exact pM_53 s1
    have m2 : ∀ j, mi g2 j = if j = 53 then iN (skp tx a + (wdE tx (skp tx a)).length) else mi g1 j := fun j => by rw [eg2, mi_mI]
    have h2 : ∀ b, hi g2 b = hi g1 b := fun b => by rw [eg2, hi_mI s1]
    have vc2 : CcV g2 cs := ⟨by rw [m2, if_neg (by decide), c1.mi (by decide)]; exact vc.1, fun k hk => (vc.2 k hk).keep fun j _ => by rw [h2, c1.hi (by decide) (by decide)]⟩
    have v2 : FcV g2 fc := v.keep (by rw [h2, c1.hi (by decide) (by decide)]) (by rw [m2, if_neg (by decide), c1.mi (by decide)])
    by_cases q4 : k = 4
    · subst q4
      have wl := k4.2 rfl
      rw [wl] at m2 hw m61 p2
      have ep0 : pCl0 tx a (cn + fc.length) = pB (if cn + fc.length = 8 then .inl (3, skp tx a) else pClm tx (skp tx a + 5)) fun q => .inr (q.1, .inr q.2) := by
        unfold pCl0
        rw [ek]
        show (if cn + fc.length = 8 then _ else _) = _
        by_cases z : cn + fc.length = 8
        · rw [if_pos z, if_pos z]; rfl
        · rw [if_neg z, if_neg z]
      obtain ⟨g3, r, r3, c3, z⟩ := s_readClaim (d := d) (fr := skp tx a) (cn := cn) (a := skp tx a + 5) s2 t2 (by omega) (by rw [m2, if_pos rfl]) (by rw [m2, if_neg (by decide), c1.mi (by decide)]; exact m54) v2 h8
      have s3 := c3.sh
      have t3 := t2.ch c3 (by decide) (by decide)
      have c3' : Ch [95, 96] [52, 53, 56, 58, 60, 61, 62] h g3 := c2.trans (c3.mono (by decide) (by decide))
      have start : ∀ R, qMC (d + 5) 301 [.ref 55] h R ↔ qEv (d + 4) 0 qk_301 136 [some (.ref 55), some (.int (iN (skp tx a))), some (.int (iN 4)), some (.int r), none] [] g3 R := by
        intro R
        simp (disch := first | assumption | omega) only [e301_0, e301_1, e301_4, e301_5, e301_8, e301_9, e301_10, e301_13, e301_14, e301_15, e301_18, e301_19, e301_20, e301_21, e301_24, e301_27, e301_28, e301_29, e301_30, e301_33, e301_36, e301_37, e301_38, e301_39, e301_40, e301_43, e301_44, e301_45, e301_48, e301_49, e301_53, e301_54, e301_55, e301_58, e301_59, e301_60, e301_63, e301_65, e301_66, e301_67, e301_70, e301_71, e301_74, e301_75, e301_78, e301_81, e301_82, e301_83, e301_86, e301_87, e301_90, e301_91, e301_93, e301_94, e301_95, e301_97, e301_100, e301_103, e301_104, e301_105, e301_108, e301_109, e301_110, e301_113, e301_114, e301_115, e301_116, e301_118, e301_119, e301_120, e301_123, e301_124, e301_125, e301_128, e301_129, e301_130, e301_131, e301_132, e301_135, e301_137, e301_140, e301_141, e301_142, e301_143, e301_146, e301_148, e301_151, e301_152, e301_153, e301_154, e301_157, e301_160, e301_161, e301_162, e301_163, e301_166, e301_167, e301_168, e301_171, e301_172, e301_175, e301_176, e301_177, e301_180, e301_181, e301_182, e301_183, e301_184, e301_185, e301_188, e301_189, e301_190, e301_193, e301_194, m301, ↓reduceIte, qg_0, qg_1, qg_2, qg_3, qg_4, qg_5, qg_6, qg_7, qg_8, qg_9, qg_10, qg_11, qg_12, qg_13, not_true_eq_false, not_false_eq_true, Nat.reduceBEq, Bool.false_eq_true, ex1, ex3, ex4, exF, qfit_i, qfit_l, qfit_r, qfit_n, qfit_b0, qfit_b1, qcat_i, qcat_r, qcat_n, qcat_l, qroom_0, qroom_c, List.map_cons, List.map_nil, List.sum_cons, List.sum_nil, Nat.reduceAdd, Nat.reduceMul, Nat.reduceLT, Nat.reduceLeDiff, Nat.reduceEqDiff, Nat.reduceSub, decide_true, true_and, and_true, and_self, if_true, if_false, Option.toList_some, Option.toList_none, List.cons_append, List.nil_append, qsL, qlong, List.length_cons, List.length_nil, iN_L, vM1, vM2, exI, iN_add, iN_mul, iN_le, iN_lt, iN_eq, Nat.le_refl, qfN0, qfN1, r1, gM_53, m53, ky, gM_61, m61, p2, r3]
      unfold pCls
      rw [ep0]
      cases e : (if cn + fc.length = 8 then (.inl (3, skp tx a) : pFl ⊕ (Nat × clm)) else pClm tx (skp tx a + 5)) with
      | inl f =>
        obtain ⟨z1, z2, z3⟩ := rdQ_l z e
        subst z1
        exact ⟨g3, iN f.1, fun R => (start R).trans (rl_f136 z2 R), c3', rfl, z2, z3⟩
      | inr q =>
        obtain ⟨z1, z2, z3, z4⟩ := rdQ_r z e
        subst z1
        have qb : q.1 ≤ tx.length := by
          split at e
          · cases e
          · unfold pClm at e
            obtain ⟨x1, -, y1⟩ := pB_ok e
            obtain ⟨x2, -, y2⟩ := pB_ok y1
            obtain ⟨x3, -, y3⟩ := pB_ok y2
            obtain ⟨x4, w4, y4⟩ := pB_ok y3
            obtain ⟨x5, w5, y5⟩ := pB_ok y4
            cases y5
            exact (pNum_ok (pChr_ok w4).2.1 w5).2.1
        have vc3 : mi g3 56 = iN cs.length := by rw [c3.mi (by decide)]; exact vc2.1
        obtain ⟨g4, r', r4, c4, y, o4⟩ := rl_end (d := d) (k := 4) (x1 := some (.int (iN (skp tx a)))) (x4 := none) s3 t3 qb z3 vc3 hc
        refine ⟨g4, r', fun R => (start R).trans (r4 R), c3'.trans (c4.mono (by decide) (by decide)), ?_⟩
        show rdQ h g4 r' (pB (pChr tx q.1 isSc) _) _
        cases e2 : pChr tx q.1 isSc with
        | inl f =>
          obtain ⟨y1, y2, y3⟩ := rdQ_l y e2
          exact ⟨y1, y2, y3⟩
        | inr q2 =>
          obtain ⟨y1, y2, y3, y4, y5⟩ := rdQ_r y e2
          refine ⟨y1, by rw [y2, z2, m2, if_neg (by decide)]; exact k52, y3, vc2.snoc y4 y5 (fun j hj => by rw [o4 j (by omega), c3.hi (by decide) (by decide)]), z4.keep (c4.hi (by decide) (by decide)) (c4.mi (by decide))⟩
    · have hk3 : k ≤ 3 := by omega
      have ep0 : pCl0 tx a (cn + fc.length) = pB (pShp tx (skp tx a + (wdE tx (skp tx a)).length) k) fun q => .inr (q.1, .inl (k, q.2.1, q.2.2)) := by
        unfold pCl0
        rw [ek]
        rcases (show k = 0 ∨ k = 1 ∨ k = 2 ∨ k = 3 by omega) with rfl | rfl | rfl | rfl <;> rfl
      have vc3 : mi g2 56 = iN cs.length := vc2.1
      obtain ⟨g3, r, y4, r3, c3, z, o3⟩ := rl_shape (d := d) (k := k) (fr := skp tx a) s2 t2 hw (by rw [m2, if_pos rfl]) vc3 hc hk3
      have s3 := c3.sh
      have t3 := t2.ch c3 (by decide) (by decide)
      have c3' : Ch [95, 96] [52, 53, 56, 58, 60, 61, 62] h g3 := c2.trans (c3.mono (by decide) (by decide))
      have start : ∀ R, qMC (d + 5) 301 [.ref 55] h R ↔ qEv (d + 4) 0 qk_301 136 [some (.ref 55), some (.int (iN (skp tx a))), some (.int (iN k)), some (.int r), y4] [] g3 R := by
        intro R
        rw [← r3 R]
        simp (disch := first | assumption | omega) only [e301_0, e301_1, e301_4, e301_5, e301_8, e301_9, e301_10, e301_13, e301_14, e301_15, e301_18, e301_19, e301_20, e301_21, e301_24, e301_27, e301_28, e301_29, e301_30, e301_33, e301_36, e301_37, e301_38, e301_39, e301_40, e301_43, e301_44, e301_45, e301_48, e301_49, e301_53, e301_54, e301_55, e301_58, e301_59, e301_60, e301_63, e301_65, e301_66, e301_67, e301_70, e301_71, e301_74, e301_75, e301_78, e301_81, e301_82, e301_83, e301_86, e301_87, e301_90, e301_91, e301_93, e301_94, e301_95, e301_97, e301_100, e301_103, e301_104, e301_105, e301_108, e301_109, e301_110, e301_113, e301_114, e301_115, e301_116, e301_118, e301_119, e301_120, e301_123, e301_124, e301_125, e301_128, e301_129, e301_130, e301_131, e301_132, e301_135, e301_137, e301_140, e301_141, e301_142, e301_143, e301_146, e301_148, e301_151, e301_152, e301_153, e301_154, e301_157, e301_160, e301_161, e301_162, e301_163, e301_166, e301_167, e301_168, e301_171, e301_172, e301_175, e301_176, e301_177, e301_180, e301_181, e301_182, e301_183, e301_184, e301_185, e301_188, e301_189, e301_190, e301_193, e301_194, m301, ↓reduceIte, qg_0, qg_1, qg_2, qg_3, qg_4, qg_5, qg_6, qg_7, qg_8, qg_9, qg_10, qg_11, qg_12, qg_13, not_true_eq_false, not_false_eq_true, Nat.reduceBEq, Bool.false_eq_true, ex1, ex3, ex4, exF, qfit_i, qfit_l, qfit_r, qfit_n, qfit_b0, qfit_b1, qcat_i, qcat_r, qcat_n, qcat_l, qroom_0, qroom_c, List.map_cons, List.map_nil, List.sum_cons, List.sum_nil, Nat.reduceAdd, Nat.reduceMul, Nat.reduceLT, Nat.reduceLeDiff, Nat.reduceEqDiff, Nat.reduceSub, decide_true, true_and, and_true, and_self, if_true, if_false, Option.toList_some, Option.toList_none, List.cons_append, List.nil_append, qsL, qlong, List.length_cons, List.length_nil, iN_L, vM1, vM2, exI, iN_add, iN_mul, iN_le, iN_lt, iN_eq, Nat.le_refl, qfN0, qfN1, r1, gM_53, m53, ky, gM_61, m61, p2, q4, Nat.zero_le]
      unfold pCls
      rw [ep0]
      cases e : pShp tx (skp tx a + (wdE tx (skp tx a)).length) k with
      | inl f =>
        obtain ⟨z1, z2, z3⟩ := rdQ_l z e
        subst z1
        exact ⟨g3, iN f.1, fun R => (start R).trans (rl_f136 z2 R), c3', rfl, z2, z3⟩
      | inr q =>
        obtain ⟨z1, z2, z3, z4, z5⟩ := rdQ_r z e
        subst z1
        have qb : q.1 ≤ tx.length := by
          unfold pShp at e
          obtain ⟨x1, w1, y1⟩ := pB_ok e
          split at y1
          · obtain ⟨x2, w2, y2⟩ := pB_ok y1
            obtain ⟨x3, w3, y3⟩ := pB_ok y2
            cases y3
            exact (pNum_ok (pWrd_ok (pNum_ok hw w1).2.1 w2).2 w3).2.1
          · cases y1
            exact (pNum_ok hw w1).2.1
        obtain ⟨g4, r', r4, c4, y, o4⟩ := rl_end (d := d) (k := k) (x1 := some (.int (iN (skp tx a)))) (x4 := y4) s3 t3 qb z3 (by rw [c3.mi (by decide)]; exact vc3) hc
        refine ⟨g4, r', fun R => (start R).trans (r4 R), c3'.trans (c4.mono (by decide) (by decide)), ?_⟩
        show rdQ h g4 r' (pB (pChr tx q.1 isSc) _) _
        cases e2 : pChr tx q.1 isSc with
        | inl f =>
          obtain ⟨y1, y2, y3⟩ := rdQ_l y e2
          exact ⟨y1, y2, y3⟩
        | inr q2 =>
          obtain ⟨y1, y2, y3, y4, y5⟩ := rdQ_r y e2
          refine ⟨y1, by rw [y2, z2, m2, if_neg (by decide)]; exact k52, y3, vc2.snoc y4 ⟨y5, by rw [o4 _ (by omega)]; exact z4, fun w => by rw [o4 _ (by omega)]; exact z5 w⟩ (fun j hj => by rw [o4 j (by omega), o3 j (by omega) (by omega)]), ?_⟩
          show FcV g4 (fc ++ [])
          rw [List.append_nil]
          exact v2.keep (by rw [c4.hi (by decide) (by decide), c3.hi (by decide) (by decide)]) (by rw [c4.mi (by decide), c3.mi (by decide)])
end CLAUSER

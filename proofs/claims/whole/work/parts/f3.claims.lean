/-! ===== THE REFERENCE: clauses of the text ===== -/
section CLSR
variable {d : Nat} {h : qH} {tx : List Nat}
def bV : Option Nat → Int32
  | none => -iN 1
  | some n => iN n
def c0m : clm := (none, 0, 0, 0)
def cmI (c : clm) : Nat → Int32
  | 0 => bV c.1
  | 1 => iN c.2.1
  | 2 => iN c.2.2.1
  | _ => iN c.2.2.2
/-- claims in a row -/
def CmRow (h : qH) (a : Nat) (l : List clm) : Prop := l.length ≤ 8 ∧ ∀ k, k < l.length → ∀ j, j < 4 → hi h a (4 * k + j) = cmI (l.getD k c0m) j
def FcV (h : qH) (l : List clm) : Prop := CmRow h 96 l ∧ mi h 58 = iN l.length
theorem getD_app {α : Type} {l : List α} {x z : α} {k : Nat} : (l ++ [x]).getD k z = if k < l.length then l.getD k z else if k = l.length then x else z := by
  rw [List.getD_eq_getElem?_getD, List.getD_eq_getElem?_getD]
  by_cases e : k < l.length
  · rw [if_pos e, List.getElem?_append_left e]
  · rw [if_neg e, List.getElem?_append_right (by omega)]
    by_cases e2 : k = l.length
    · rw [if_pos e2, e2, Nat.sub_self]; rfl
    · rw [if_neg e2, List.getElem?_eq_none (by rw [List.length_singleton]; omega)]; rfl
theorem pNum_skp {a lo hi' : Nat} (ha : a ≤ tx.length) : pNum tx (skp tx a) lo hi' = pNum tx a lo hi' := by
  unfold pNum; rw [skp_skp ha]
theorem pWrd_skp {a : Nat} {w : List Nat} (ha : a ≤ tx.length) : pWrd tx (skp tx a) w = pWrd tx a w := by
  unfold pWrd; rw [skp_skp ha]
theorem rdQ_l {h' : qH} {r : Int32} {α : Type} {q : pFl ⊕ α} {ok : α → Prop} {k p : Nat} (z : rdQ h h' r q ok) (e : q = .inl (k, p)) : r = iN k ∧ (1 ≤ k ∧ k ≤ 3) ∧ mi h' 52 = iN p := by subst e; exact z
theorem rdQ_r {h' : qH} {r : Int32} {α : Type} {q : pFl ⊕ α} {ok : α → Prop} {a : α} (z : rdQ h h' r q ok) (e : q = .inr a) : r = iN 0 ∧ mi h' 52 = mi h 52 ∧ ok a := by subst e; exact z
set_option maxRecDepth 100000 in
set_option maxHeartbeats 16000000 in
/-- readClaim from pc 28 to 90: whom it speaks of -/
theorem rc_who {a n fr : Nat} (s : ShM h) (t : TxV h tx) (ha : a ≤ tx.length) (m : mi h 53 = iN a) (hn : n < 8) : ∃ h' r, (∀ R, qEv (d + 3) 0 qk_300 28 [some (.ref 55), some (.int (iN fr)), some (.int (iN (4 * n))), none, none] [] h R ↔ qEv (d + 3) 0 qk_300 90 [some (.ref 55), some (.int (iN fr)), some (.int (iN (4 * n))), some (.int r), none] [] h' R) ∧ Ch [96] [52, 53, 60, 61, 62] h h' ∧ rdQ h h' r (pWho tx a) (fun q => mi h' 53 = iN q.1 ∧ hi h' 96 (4 * n) = bV q.2) ∧ ∀ k, k ≠ 4 * n → hi h' 96 k = hi h 96 k := by
  have t1 := t.1
  have hl := skp_le ha
  obtain ⟨g1, r1, c1, m53, m61, mw1⟩ := s_readWord (d := d + 1) s t ha m
  have s1 := c1.sh
  have tg1 := t.ch c1 (by decide) (by decide)
  have k52 : mi g1 52 = mi h 52 := c1.mi (by decide)
  have c1' : Ch [96] [52, 53, 60, 61, 62] h g1 := c1.mono (by decide) (by decide)
  have hw : skp tx a + (wdE tx (skp tx a)).length ≤ tx.length := tk_le hl
  unfold pWho
  by_cases q : wdE tx (skp tx a) = []
  · rw [if_pos q]
    obtain ⟨g2, r, r2, c2, z⟩ := s_readNumber (d := d + 1) (lo := 0) (hi' := 99) s1 tg1 hl m53 (by omega) (by omega)
    rw [pNum_skp ha] at z
    have s2 := c2.sh
    have c2' : Ch [96] [52, 53, 60, 61, 62] h g2 := c1'.trans (c2.mono (by decide) (by decide))
    obtain ⟨g3, eg3⟩ : ∃ g3, g3 = sI g2 96 (upd (hi g2 96) (4 * n) (mi g2 62)) := ⟨_, rfl⟩
    have c3 : Ch [96] [52, 53, 60, 61, 62] h g3 := c2'.trans (by rw [eg3]; exact Ch.rowI s2 (kM_96 s2) (by decide))
    have w1 : qiast g2 96 (iN (4 * n)) (mi g2 62) = some g3 := by rw [eg3]; exact wM_96 s2 (by omega)
    have mm : ∀ j, mi g3 j = mi g2 j := fun j => by rw [eg3, mi_sI (kM_96 s2)]
    have hh : ∀ k, hi g3 96 k = if k = 4 * n then mi g2 62 else hi h 96 k := fun k => by
      rw [eg3, hi_sI, if_pos rfl, upd_at, c2.hi (by decide) (by decide), c1.hi (by decide) (by decide)]
    rw [q, List.length_nil, Nat.add_zero] at m61
    refine ⟨g3, r, fun R => ?_, c3, ?_, fun k hk => by rw [hh, if_neg hk]⟩
    · rw [e300_28]
      simp (disch := first | assumption | omega) only [e300_0, e300_1, e300_4, e300_5, e300_8, e300_9, e300_11, e300_14, e300_15, e300_16, e300_17, e300_20, e300_21, e300_22, e300_23, e300_26, e300_27, e300_29, e300_32, e300_33, e300_34, e300_35, e300_38, e300_39, e300_42, e300_45, e300_46, e300_48, e300_50, e300_52, e300_53, e300_54, e300_55, e300_58, e300_61, e300_62, e300_63, e300_66, e300_67, e300_68, e300_69, e300_72, e300_73, e300_74, e300_76, e300_79, e300_80, e300_81, e300_84, e300_85, e300_86, e300_89, e300_91, e300_94, e300_95, e300_98, e300_99, e300_101, e300_103, e300_105, e300_107, e300_109, e300_110, e300_113, e300_116, e300_117, e300_118, e300_121, e300_122, e300_125, e300_126, e300_127, e300_128, e300_131, e300_132, e300_133, e300_136, e300_137, e300_138, e300_139, e300_142, e300_143, e300_144, e300_145, e300_146, e300_149, e300_150, e300_151, e300_154, e300_156, e300_158, e300_160, e300_163, e300_165, e300_167, e300_170, e300_172, e300_174, e300_177, e300_178, e300_179, e300_180, e300_183, e300_186, e300_187, e300_188, e300_189, e300_192, e300_193, e300_194, e300_197, e300_198, e300_201, e300_202, e300_203, e300_204, e300_206, e300_207, e300_208, e300_209, e300_212, e300_215, e300_216, e300_217, e300_220, e300_221, e300_222, e300_223, e300_224, e300_227, e300_228, e300_229, e300_230, e300_233, e300_234, e300_235, e300_238, e300_239, m300, ↓reduceIte, qg_0, qg_1, qg_2, qg_3, qg_4, qg_5, qg_6, qg_7, qg_8, qg_9, qg_10, qg_11, qg_12, qg_13, not_true_eq_false, not_false_eq_true, Nat.reduceBEq, Bool.false_eq_true, ex1, ex3, ex4, exF, qfit_i, qfit_l, qfit_r, qfit_n, qfit_b0, qfit_b1, qcat_i, qcat_r, qcat_n, qcat_l, qroom_0, qroom_c, List.map_cons, List.map_nil, List.sum_cons, List.sum_nil, Nat.reduceAdd, Nat.reduceMul, Nat.reduceLT, Nat.reduceLeDiff, Nat.reduceEqDiff, Nat.reduceSub, decide_true, true_and, and_true, and_self, if_true, if_false, Option.toList_some, Option.toList_none, List.cons_append, List.nil_append, qsL, qlong, List.length_cons, List.length_nil, iN_L, vM1, vM2, exI, iN_add, iN_mul, iN_le, iN_lt, iN_eq, Nat.le_refl, qfN0, qfN1, r1, gM_61, m61, gM_53, m53, r2, gM_59, gM_62, w1]
    · cases e : pNum tx a 0 99 with
      | inl f =>
        obtain ⟨z1, z2, z3⟩ := rdQ_l z e
        exact ⟨z1, z2, by rw [mm]; exact z3⟩
      | inr f =>
        obtain ⟨z1, z2, z3, z4⟩ := rdQ_r z e
        exact ⟨z1, by rw [mm, z2]; exact k52, by rw [mm]; exact z3, by rw [hh, if_pos rfl, z4]; rfl⟩
  · rw [if_neg q]
    have ql : 0 < (wdE tx (skp tx a)).length := List.length_pos_iff.mpr q
    obtain ⟨g2, r, r2, c2, z⟩ := s_needs (d := d) (w := w_all) s1 tg1 hl m53 (by decide) (by decide)
    rw [pWrd_skp ha] at z
    have s2 := c2.sh
    have c2' : Ch [96] [52, 53, 60, 61, 62] h g2 := c1'.trans (c2.mono (by decide) (by decide))
    obtain ⟨g3, eg3⟩ : ∃ g3, g3 = sI g2 96 (upd (hi g2 96) (4 * n) (-iN 1)) := ⟨_, rfl⟩
    have c3 : Ch [96] [52, 53, 60, 61, 62] h g3 := c2'.trans (by rw [eg3]; exact Ch.rowI s2 (kM_96 s2) (by decide))
    have w1 : qiast g2 96 (iN (4 * n)) (-iN 1) = some g3 := by rw [eg3]; exact wM_96 s2 (by omega)
    have mm : ∀ j, mi g3 j = mi g2 j := fun j => by rw [eg3, mi_sI (kM_96 s2)]
    have hh : ∀ k, hi g3 96 k = if k = 4 * n then -iN 1 else hi h 96 k := fun k => by
      rw [eg3, hi_sI, if_pos rfl, upd_at, c2.hi (by decide) (by decide), c1.hi (by decide) (by decide)]
    refine ⟨g3, r, fun R => ?_, c3, ?_, fun k hk => by rw [hh, if_neg hk]⟩
    · rw [e300_28]
      simp (disch := first | assumption | omega) only [e300_0, e300_1, e300_4, e300_5, e300_8, e300_9, e300_11, e300_14, e300_15, e300_16, e300_17, e300_20, e300_21, e300_22, e300_23, e300_26, e300_27, e300_29, e300_32, e300_33, e300_34, e300_35, e300_38, e300_39, e300_42, e300_45, e300_46, e300_48, e300_50, e300_52, e300_53, e300_54, e300_55, e300_58, e300_61, e300_62, e300_63, e300_66, e300_67, e300_68, e300_69, e300_72, e300_73, e300_74, e300_76, e300_79, e300_80, e300_81, e300_84, e300_85, e300_86, e300_89, e300_91, e300_94, e300_95, e300_98, e300_99, e300_101, e300_103, e300_105, e300_107, e300_109, e300_110, e300_113, e300_116, e300_117, e300_118, e300_121, e300_122, e300_125, e300_126, e300_127, e300_128, e300_131, e300_132, e300_133, e300_136, e300_137, e300_138, e300_139, e300_142, e300_143, e300_144, e300_145, e300_146, e300_149, e300_150, e300_151, e300_154, e300_156, e300_158, e300_160, e300_163, e300_165, e300_167, e300_170, e300_172, e300_174, e300_177, e300_178, e300_179, e300_180, e300_183, e300_186, e300_187, e300_188, e300_189, e300_192, e300_193, e300_194, e300_197, e300_198, e300_201, e300_202, e300_203, e300_204, e300_206, e300_207, e300_208, e300_209, e300_212, e300_215, e300_216, e300_217, e300_220, e300_221, e300_222, e300_223, e300_224, e300_227, e300_228, e300_229, e300_230, e300_233, e300_234, e300_235, e300_238, e300_239, m300, ↓reduceIte, qg_0, qg_1, qg_2, qg_3, qg_4, qg_5, qg_6, qg_7, qg_8, qg_9, qg_10, qg_11, qg_12, qg_13, not_true_eq_false, not_false_eq_true, Nat.reduceBEq, Bool.false_eq_true, ex1, ex3, ex4, exF, qfit_i, qfit_l, qfit_r, qfit_n, qfit_b0, qfit_b1, qcat_i, qcat_r, qcat_n, qcat_l, qroom_0, qroom_c, List.map_cons, List.map_nil, List.sum_cons, List.sum_nil, Nat.reduceAdd, Nat.reduceMul, Nat.reduceLT, Nat.reduceLeDiff, Nat.reduceEqDiff, Nat.reduceSub, decide_true, true_and, and_true, and_self, if_true, if_false, Option.toList_some, Option.toList_none, List.cons_append, List.nil_append, qsL, qlong, List.length_cons, List.length_nil, iN_L, vM1, vM2, exI, iN_add, iN_mul, iN_le, iN_lt, iN_eq, Nat.le_refl, qfN0, qfN1, r1, gM_61, m61, gM_53, m53, show ¬ skp tx a + (wdE tx (skp tx a)).length ≤ skp tx a by omega, s_allW, r2, gM_59, w1]
    · cases e : pWrd tx a w_all with
      | inl f =>
        obtain ⟨z1, z2, z3⟩ := rdQ_l z e
        exact ⟨z1, z2, by rw [mm]; exact z3⟩
      | inr f =>
        obtain ⟨z1, z2, z3⟩ := rdQ_r z e
        exact ⟨z1, by rw [mm, z2]; exact k52, by rw [mm]; exact z3, by rw [hh, if_pos rfl]; rfl⟩
set_option maxRecDepth 100000 in
theorem rc_f90 {k : Nat} {x1 x2 x4 : Option Value} (hk : 1 ≤ k ∧ k ≤ 3) (R : qRes) : qEv (d + 3) 0 qk_300 90 [some (.ref 55), x1, x2, some (.int (iN k)), x4] [] h R ↔ R = (some (.int (iN k)), h) := by
  rw [e300_90]
  simp (disch := first | assumption | omega) only [e300_0, e300_1, e300_4, e300_5, e300_8, e300_9, e300_11, e300_14, e300_15, e300_16, e300_17, e300_20, e300_21, e300_22, e300_23, e300_26, e300_27, e300_28, e300_29, e300_32, e300_33, e300_34, e300_35, e300_38, e300_39, e300_42, e300_45, e300_46, e300_48, e300_50, e300_52, e300_53, e300_54, e300_55, e300_58, e300_61, e300_62, e300_63, e300_66, e300_67, e300_68, e300_69, e300_72, e300_73, e300_74, e300_76, e300_79, e300_80, e300_81, e300_84, e300_85, e300_86, e300_89, e300_91, e300_94, e300_95, e300_98, e300_99, e300_101, e300_103, e300_105, e300_107, e300_109, e300_110, e300_113, e300_116, e300_117, e300_118, e300_121, e300_122, e300_125, e300_126, e300_127, e300_128, e300_131, e300_132, e300_133, e300_136, e300_137, e300_138, e300_139, e300_142, e300_143, e300_144, e300_145, e300_146, e300_149, e300_150, e300_151, e300_154, e300_156, e300_158, e300_160, e300_163, e300_165, e300_167, e300_170, e300_172, e300_174, e300_177, e300_178, e300_179, e300_180, e300_183, e300_186, e300_187, e300_188, e300_189, e300_192, e300_193, e300_194, e300_197, e300_198, e300_201, e300_202, e300_203, e300_204, e300_206, e300_207, e300_208, e300_209, e300_212, e300_215, e300_216, e300_217, e300_220, e300_221, e300_222, e300_223, e300_224, e300_227, e300_228, e300_229, e300_230, e300_233, e300_234, e300_235, e300_238, e300_239, m300, ↓reduceIte, qg_0, qg_1, qg_2, qg_3, qg_4, qg_5, qg_6, qg_7, qg_8, qg_9, qg_10, qg_11, qg_12, qg_13, not_true_eq_false, not_false_eq_true, Nat.reduceBEq, Bool.false_eq_true, ex1, ex3, ex4, exF, qfit_i, qfit_l, qfit_r, qfit_n, qfit_b0, qfit_b1, qcat_i, qcat_r, qcat_n, qcat_l, qroom_0, qroom_c, List.map_cons, List.map_nil, List.sum_cons, List.sum_nil, Nat.reduceAdd, Nat.reduceMul, Nat.reduceLT, Nat.reduceLeDiff, Nat.reduceEqDiff, Nat.reduceSub, decide_true, true_and, and_true, and_self, if_true, if_false, Option.toList_some, Option.toList_none, List.cons_append, List.nil_append, qsL, qlong, List.length_cons, List.length_nil, iN_L, vM1, vM2, exI, iN_add, iN_mul, iN_le, iN_lt, iN_eq, Nat.le_refl, qfN0, qfN1, show ¬ k ≤ 0 by omega]
set_option maxRecDepth 100000 in
theorem rc_f132 {k : Nat} {x1 x2 x4 : Option Value} (hk : 1 ≤ k ∧ k ≤ 3) (R : qRes) : qEv (d + 3) 0 qk_300 132 [some (.ref 55), x1, x2, some (.int (iN k)), x4] [] h R ↔ R = (some (.int (iN k)), h) := by
  rw [e300_132]
  simp (disch := first | assumption | omega) only [e300_0, e300_1, e300_4, e300_5, e300_8, e300_9, e300_11, e300_14, e300_15, e300_16, e300_17, e300_20, e300_21, e300_22, e300_23, e300_26, e300_27, e300_28, e300_29, e300_32, e300_33, e300_34, e300_35, e300_38, e300_39, e300_42, e300_45, e300_46, e300_48, e300_50, e300_52, e300_53, e300_54, e300_55, e300_58, e300_61, e300_62, e300_63, e300_66, e300_67, e300_68, e300_69, e300_72, e300_73, e300_74, e300_76, e300_79, e300_80, e300_81, e300_84, e300_85, e300_86, e300_89, e300_90, e300_91, e300_94, e300_95, e300_98, e300_99, e300_101, e300_103, e300_105, e300_107, e300_109, e300_110, e300_113, e300_116, e300_117, e300_118, e300_121, e300_122, e300_125, e300_126, e300_127, e300_128, e300_131, e300_133, e300_136, e300_137, e300_138, e300_139, e300_142, e300_143, e300_144, e300_145, e300_146, e300_149, e300_150, e300_151, e300_154, e300_156, e300_158, e300_160, e300_163, e300_165, e300_167, e300_170, e300_172, e300_174, e300_177, e300_178, e300_179, e300_180, e300_183, e300_186, e300_187, e300_188, e300_189, e300_192, e300_193, e300_194, e300_197, e300_198, e300_201, e300_202, e300_203, e300_204, e300_206, e300_207, e300_208, e300_209, e300_212, e300_215, e300_216, e300_217, e300_220, e300_221, e300_222, e300_223, e300_224, e300_227, e300_228, e300_229, e300_230, e300_233, e300_234, e300_235, e300_238, e300_239, m300, ↓reduceIte, qg_0, qg_1, qg_2, qg_3, qg_4, qg_5, qg_6, qg_7, qg_8, qg_9, qg_10, qg_11, qg_12, qg_13, not_true_eq_false, not_false_eq_true, Nat.reduceBEq, Bool.false_eq_true, ex1, ex3, ex4, exF, qfit_i, qfit_l, qfit_r, qfit_n, qfit_b0, qfit_b1, qcat_i, qcat_r, qcat_n, qcat_l, qroom_0, qroom_c, List.map_cons, List.map_nil, List.sum_cons, List.sum_nil, Nat.reduceAdd, Nat.reduceMul, Nat.reduceLT, Nat.reduceLeDiff, Nat.reduceEqDiff, Nat.reduceSub, decide_true, true_and, and_true, and_self, if_true, if_false, Option.toList_some, Option.toList_none, List.cons_append, List.nil_append, qsL, qlong, List.length_cons, List.length_nil, iN_L, vM1, vM2, exI, iN_add, iN_mul, iN_le, iN_lt, iN_eq, Nat.le_refl, qfN0, qfN1, show ¬ k ≤ 0 by omega]
set_option maxRecDepth 100000 in
set_option maxHeartbeats 16000000 in
/-- readClaim from pc 90 to 132: its cells -/
theorem rc_kind {a : Nat} {b : Nat} {x1 : Option Value} (s : ShM h) (t : TxV h tx) (ha : a ≤ tx.length) (m : mi h 53 = iN a) : ∃ h' r, (∀ R, qEv (d + 3) 0 qk_300 90 [some (.ref 55), x1, some (.int (iN b)), some (.int (iN 0)), none] [] h R ↔ qEv (d + 3) 0 qk_300 132 [some (.ref 55), x1, some (.int (iN b)), some (.int r), none] [] h' R) ∧ Ch [] [52, 53, 60, 61, 62] h h' ∧ rdQ h h' r (pB (pWrd tx a w_faces) fun q => pNum tx q 0 3) (fun q => mi h' 53 = iN q.1 ∧ mi h' 62 = iN q.2) := by
  obtain ⟨g1, r, r1, c1, z⟩ := s_needs (d := d) (w := w_faces) s t ha m (by decide) (by decide)
  have s1 := c1.sh
  have t1 := t.ch c1 (by decide) (by decide)
  cases e : pWrd tx a w_faces with
  | inl f =>
    obtain ⟨z1, z2, z3⟩ := rdQ_l z e
    subst z1
    refine ⟨g1, iN f.1, fun R => ?_, c1.mono (by decide) (by decide), rfl, z2, z3⟩
    rw [e300_90]
    simp (disch := first | assumption | omega) only [e300_0, e300_1, e300_4, e300_5, e300_8, e300_9, e300_11, e300_14, e300_15, e300_16, e300_17, e300_20, e300_21, e300_22, e300_23, e300_26, e300_27, e300_28, e300_29, e300_32, e300_33, e300_34, e300_35, e300_38, e300_39, e300_42, e300_45, e300_46, e300_48, e300_50, e300_52, e300_53, e300_54, e300_55, e300_58, e300_61, e300_62, e300_63, e300_66, e300_67, e300_68, e300_69, e300_72, e300_73, e300_74, e300_76, e300_79, e300_80, e300_81, e300_84, e300_85, e300_86, e300_89, e300_91, e300_94, e300_95, e300_98, e300_99, e300_101, e300_103, e300_105, e300_107, e300_109, e300_110, e300_113, e300_116, e300_117, e300_118, e300_121, e300_122, e300_125, e300_126, e300_127, e300_128, e300_131, e300_133, e300_136, e300_137, e300_138, e300_139, e300_142, e300_143, e300_144, e300_145, e300_146, e300_149, e300_150, e300_151, e300_154, e300_156, e300_158, e300_160, e300_163, e300_165, e300_167, e300_170, e300_172, e300_174, e300_177, e300_178, e300_179, e300_180, e300_183, e300_186, e300_187, e300_188, e300_189, e300_192, e300_193, e300_194, e300_197, e300_198, e300_201, e300_202, e300_203, e300_204, e300_206, e300_207, e300_208, e300_209, e300_212, e300_215, e300_216, e300_217, e300_220, e300_221, e300_222, e300_223, e300_224, e300_227, e300_228, e300_229, e300_230, e300_233, e300_234, e300_235, e300_238, e300_239, m300, ↓reduceIte, qg_0, qg_1, qg_2, qg_3, qg_4, qg_5, qg_6, qg_7, qg_8, qg_9, qg_10, qg_11, qg_12, qg_13, not_true_eq_false, not_false_eq_true, Nat.reduceBEq, Bool.false_eq_true, ex1, ex3, ex4, exF, qfit_i, qfit_l, qfit_r, qfit_n, qfit_b0, qfit_b1, qcat_i, qcat_r, qcat_n, qcat_l, qroom_0, qroom_c, List.map_cons, List.map_nil, List.sum_cons, List.sum_nil, Nat.reduceAdd, Nat.reduceMul, Nat.reduceLT, Nat.reduceLeDiff, Nat.reduceEqDiff, Nat.reduceSub, decide_true, true_and, and_true, and_self, if_true, if_false, Option.toList_some, Option.toList_none, List.cons_append, List.nil_append, qsL, qlong, List.length_cons, List.length_nil, iN_L, vM1, vM2, exI, iN_add, iN_mul, iN_le, iN_lt, iN_eq, Nat.le_refl, qfN0, qfN1, s_facesW, r1, show ¬ f.1 ≤ 0 by omega]
  | inr p =>
    obtain ⟨z1, z2, z3⟩ := rdQ_r z e
    subst z1
    obtain ⟨p1, p2⟩ := pWrd_ok ha e
    obtain ⟨g2, r', r2, c2, y⟩ := s_readNumber (d := d + 1) (lo := 0) (hi' := 3) s1 t1 p2 z3 (by omega) (by omega)
    refine ⟨g2, r', fun R => ?_, (c1.mono (by decide) (by decide)).trans (c2.mono (by decide) (by decide)), ?_⟩
    · rw [e300_90]
      simp (disch := first | assumption | omega) only [e300_0, e300_1, e300_4, e300_5, e300_8, e300_9, e300_11, e300_14, e300_15, e300_16, e300_17, e300_20, e300_21, e300_22, e300_23, e300_26, e300_27, e300_28, e300_29, e300_32, e300_33, e300_34, e300_35, e300_38, e300_39, e300_42, e300_45, e300_46, e300_48, e300_50, e300_52, e300_53, e300_54, e300_55, e300_58, e300_61, e300_62, e300_63, e300_66, e300_67, e300_68, e300_69, e300_72, e300_73, e300_74, e300_76, e300_79, e300_80, e300_81, e300_84, e300_85, e300_86, e300_89, e300_91, e300_94, e300_95, e300_98, e300_99, e300_101, e300_103, e300_105, e300_107, e300_109, e300_110, e300_113, e300_116, e300_117, e300_118, e300_121, e300_122, e300_125, e300_126, e300_127, e300_128, e300_131, e300_133, e300_136, e300_137, e300_138, e300_139, e300_142, e300_143, e300_144, e300_145, e300_146, e300_149, e300_150, e300_151, e300_154, e300_156, e300_158, e300_160, e300_163, e300_165, e300_167, e300_170, e300_172, e300_174, e300_177, e300_178, e300_179, e300_180, e300_183, e300_186, e300_187, e300_188, e300_189, e300_192, e300_193, e300_194, e300_197, e300_198, e300_201, e300_202, e300_203, e300_204, e300_206, e300_207, e300_208, e300_209, e300_212, e300_215, e300_216, e300_217, e300_220, e300_221, e300_222, e300_223, e300_224, e300_227, e300_228, e300_229, e300_230, e300_233, e300_234, e300_235, e300_238, e300_239, m300, ↓reduceIte, qg_0, qg_1, qg_2, qg_3, qg_4, qg_5, qg_6, qg_7, qg_8, qg_9, qg_10, qg_11, qg_12, qg_13, not_true_eq_false, not_false_eq_true, Nat.reduceBEq, Bool.false_eq_true, ex1, ex3, ex4, exF, qfit_i, qfit_l, qfit_r, qfit_n, qfit_b0, qfit_b1, qcat_i, qcat_r, qcat_n, qcat_l, qroom_0, qroom_c, List.map_cons, List.map_nil, List.sum_cons, List.sum_nil, Nat.reduceAdd, Nat.reduceMul, Nat.reduceLT, Nat.reduceLeDiff, Nat.reduceEqDiff, Nat.reduceSub, decide_true, true_and, and_true, and_self, if_true, if_false, Option.toList_some, Option.toList_none, List.cons_append, List.nil_append, qsL, qlong, List.length_cons, List.length_nil, iN_L, vM1, vM2, exI, iN_add, iN_mul, iN_le, iN_lt, iN_eq, Nat.le_refl, qfN0, qfN1, s_facesW, r1, r2]
    · show rdQ h g2 r' (pNum tx p 0 3) _
      cases e2 : pNum tx p 0 3 with
      | inl f => exact rdQ_l y e2
      | inr f =>
        obtain ⟨y1, y2, y3⟩ := rdQ_r y e2
        exact ⟨y1, by rw [y2, z2], y3⟩
set_option maxRecDepth 100000 in
set_option maxHeartbeats 16000000 in
/-- readClaim from pc 132 on: its sign, its number -/
theorem rc_sign {a n K : Nat} {x1 : Option Value} (s : ShM h) (t : TxV h tx) (ha : a ≤ tx.length) (m : mi h 53 = iN a) (m62 : mi h 62 = iN K) (m58 : mi h 58 = iN n) (hn : n < 8) : ∃ h' r, (∀ R, qEv (d + 3) 0 qk_300 132 [some (.ref 55), x1, some (.int (iN (4 * n))), some (.int (iN 0)), none] [] h R ↔ R = (some (.int r), h')) ∧ Ch [96] [52, 53, 58, 62] h h' ∧ rdQ h h' r (pB (pChr tx a isSg) fun q4 => pB (pNum tx q4.1 0 999) fun q5 => .inr (q5.1, q4.2, q5.2)) (fun q => mi h' 53 = iN q.1 ∧ mi h' 58 = iN (n + 1) ∧ hi h' 96 (4 * n + 1) = iN K ∧ hi h' 96 (4 * n + 2) = iN q.2.1 ∧ hi h' 96 (4 * n + 3) = iN q.2.2) ∧ ∀ k, k ≠ 4 * n + 1 → k ≠ 4 * n + 2 → k ≠ 4 * n + 3 → hi h' 96 k = hi h 96 k := by
  have t1 := t.1
  have hl := skp_le ha
  obtain ⟨g1, eg1⟩ : ∃ g1, g1 = sI h 96 (upd (hi h 96) (4 * n + 1) (iN K)) := ⟨_, rfl⟩
  have c1 : Ch [96] [52, 53, 58, 62] h g1 := by rw [eg1]; exact Ch.rowI s (kM_96 s) (by decide)
  have s1 := c1.sh
  have tg1 := t.ch c1 (by decide) (by decide)
  have w1 : qiast h 96 (iN (4 * n + 1)) (iN K) = some g1 := by rw [eg1]; exact wM_96 s (by omega)
  have mm1 : ∀ j, mi g1 j = mi h j := fun j => by rw [eg1, mi_sI (kM_96 s)]
  have hh1 : ∀ k, hi g1 96 k = if k = 4 * n + 1 then iN K else hi h 96 k := fun k => by rw [eg1, hi_sI, if_pos rfl, upd_at]
  obtain ⟨g2, r2, c2, m2⟩ := s_here (d := d + 2) s1 tg1 ha (by rw [mm1]; exact m)
  have s2 := c2.sh
  have tg2 := tg1.ch c2 (by decide) (by decide)
  have c2' : Ch [96] [52, 53, 58, 62] h g2 := c1.trans (c2.mono (by decide) (by decide))
  have k52 : mi g2 52 = mi h 52 := by rw [c2.mi (by decide), mm1]
  have k58 : mi g2 58 = iN n := by rw [c2.mi (by decide), mm1]; exact m58
  have hh2 : ∀ k, hi g2 96 k = hi g1 96 k := fun k => by rw [c2.hi (by decide) (by decide)]
  have go : ∀ R, qEv (d + 3) 0 qk_300 132 [some (.ref 55), x1, some (.int (iN (4 * n))), some (.int (iN 0)), none] [] h R ↔ qEv (d + 3) 0 qk_300 156 [some (.ref 55), x1, some (.int (iN (4 * n))), some (.int (iN 0)), some (.int (hrV tx (skp tx a)))] [] g2 R := by
    intro R
    rw [e300_132]
    simp (disch := first | assumption | omega) only [e300_0, e300_1, e300_4, e300_5, e300_8, e300_9, e300_11, e300_14, e300_15, e300_16, e300_17, e300_20, e300_21, e300_22, e300_23, e300_26, e300_27, e300_28, e300_29, e300_32, e300_33, e300_34, e300_35, e300_38, e300_39, e300_42, e300_45, e300_46, e300_48, e300_50, e300_52, e300_53, e300_54, e300_55, e300_58, e300_61, e300_62, e300_63, e300_66, e300_67, e300_68, e300_69, e300_72, e300_73, e300_74, e300_76, e300_79, e300_80, e300_81, e300_84, e300_85, e300_86, e300_89, e300_90, e300_91, e300_94, e300_95, e300_98, e300_99, e300_101, e300_103, e300_105, e300_107, e300_109, e300_110, e300_113, e300_116, e300_117, e300_118, e300_121, e300_122, e300_125, e300_126, e300_127, e300_128, e300_131, e300_133, e300_136, e300_137, e300_138, e300_139, e300_142, e300_143, e300_144, e300_145, e300_146, e300_149, e300_150, e300_151, e300_154, e300_158, e300_160, e300_163, e300_165, e300_167, e300_170, e300_172, e300_174, e300_177, e300_178, e300_179, e300_180, e300_183, e300_186, e300_187, e300_188, e300_189, e300_192, e300_193, e300_194, e300_197, e300_198, e300_201, e300_202, e300_203, e300_204, e300_206, e300_207, e300_208, e300_209, e300_212, e300_215, e300_216, e300_217, e300_220, e300_221, e300_222, e300_223, e300_224, e300_227, e300_228, e300_229, e300_230, e300_233, e300_234, e300_235, e300_238, e300_239, m300, ↓reduceIte, qg_0, qg_1, qg_2, qg_3, qg_4, qg_5, qg_6, qg_7, qg_8, qg_9, qg_10, qg_11, qg_12, qg_13, not_true_eq_false, not_false_eq_true, Nat.reduceBEq, Bool.false_eq_true, ex1, ex3, ex4, exF, qfit_i, qfit_l, qfit_r, qfit_n, qfit_b0, qfit_b1, qcat_i, qcat_r, qcat_n, qcat_l, qroom_0, qroom_c, List.map_cons, List.map_nil, List.sum_cons, List.sum_nil, Nat.reduceAdd, Nat.reduceMul, Nat.reduceLT, Nat.reduceLeDiff, Nat.reduceEqDiff, Nat.reduceSub, decide_true, true_and, and_true, and_self, if_true, if_false, Option.toList_some, Option.toList_none, List.cons_append, List.nil_append, qsL, qlong, List.length_cons, List.length_nil, iN_L, vM1, vM2, exI, iN_add, iN_mul, iN_le, iN_lt, iN_eq, Nat.le_refl, qfN0, qfN1, gM_59, gM_62, m62, w1, r2]
  by_cases q : skp tx a < tx.length ∧ isSg (tx.getD (skp tx a) 0) = true
  · have ev : hrV tx (skp tx a) = iN (tx.getD (skp tx a) 0) := if_pos q.1
    have ep : pChr tx a isSg = .inr (skp tx a + 1, tx.getD (skp tx a) 0) := if_pos q
    have v2 := (t.2.2 _ q.1).2
    obtain ⟨g3, eg3⟩ : ∃ g3, g3 = mI g2 53 (iN (skp tx a + 1)) := ⟨_, rfl⟩
    have c3 : Ch [96] [52, 53, 58, 62] h g3 := c2'.trans (by rw [eg3]; exact Ch.setI s2 (by decide) (by decide))
    have s3 := c3.sh
    have p3 : qput g2 55 11 53 (.int (iN (skp tx a + 1))) = some g3 := by rw [eg3]; exact pM_53 s2
    obtain ⟨g4, eg4⟩ : ∃ g4, g4 = sI g3 96 (upd (hi g3 96) (4 * n + 2) (iN (tx.getD (skp tx a) 0))) := ⟨_, rfl⟩
    have c4 : Ch [96] [52, 53, 58, 62] h g4 := c3.trans (by rw [eg4]; exact Ch.rowI s3 (kM_96 s3) (by decide))
    have s4 := c4.sh
    have w4 : qiast g3 96 (iN (4 * n + 2)) (iN (tx.getD (skp tx a) 0)) = some g4 := by rw [eg4]; exact wM_96 s3 (by omega)
    have m4 : ∀ j, mi g4 j = if j = 53 then iN (skp tx a + 1) else mi g2 j := fun j => by rw [eg4, mi_sI (kM_96 s3), eg3, mi_mI]
    have hh4 : ∀ k, hi g4 96 k = if k = 4 * n + 2 then iN (tx.getD (skp tx a) 0) else hi g2 96 k := fun k => by rw [eg4, hi_sI, if_pos rfl, upd_at, eg3, hi_mI s2]
    have tg4 := t.ch c4 (by decide) (by decide)
    obtain ⟨g5, r, r5, c5, z⟩ := s_readNumber (d := d + 1) (lo := 0) (hi' := 999) s4 tg4 (show skp tx a + 1 ≤ tx.length by omega) (by rw [m4, if_pos rfl]) (by omega) (by omega)
    have s5 := c5.sh
    have c5' : Ch [96] [52, 53, 58, 62] h g5 := c4.trans (c5.mono (by decide) (by decide))
    obtain ⟨g6, eg6⟩ : ∃ g6, g6 = sI g5 96 (upd (hi g5 96) (4 * n + 3) (mi g5 62)) := ⟨_, rfl⟩
    have c6 : Ch [96] [52, 53, 58, 62] h g6 := c5'.trans (by rw [eg6]; exact Ch.rowI s5 (kM_96 s5) (by decide))
    have s6 := c6.sh
    have w6 : qiast g5 96 (iN (4 * n + 3)) (mi g5 62) = some g6 := by rw [eg6]; exact wM_96 s5 (by omega)
    have k58b : mi g6 58 = iN n := by rw [eg6, mi_sI (kM_96 s5), c5.mi (by decide), m4, if_neg (by decide)]; exact k58
    obtain ⟨g7, eg7⟩ : ∃ g7, g7 = mI g6 58 (iN (n + 1)) := ⟨_, rfl⟩
    have c7 : Ch [96] [52, 53, 58, 62] h g7 := c6.trans (by rw [eg7]; exact Ch.setI s6 (by decide) (by decide))
    have p7 : qput g6 55 11 58 (.int (iN (n + 1))) = some g7 := by rw [eg7]; exact pM_58 s6
    have m7 : ∀ j, mi g7 j = if j = 58 then iN (n + 1) else mi g5 j := fun j => by rw [eg7, mi_mI, eg6, mi_sI (kM_96 s5)]
    have hh7 : ∀ k, hi g7 96 k = if k = 4 * n + 3 then mi g5 62 else hi g4 96 k := fun k => by rw [eg7, hi_mI s6, eg6, hi_sI, if_pos rfl, upd_at, c5.hi (by decide) (by decide)]
    refine ⟨g7, r, fun R => ?_, c7, ?_, fun k h1 h2 h3 => by rw [hh7, if_neg h3, hh4, if_neg h2, hh2, hh1, if_neg h1]⟩
    · rw [go R, ev, e300_156]
      have sg : tx.getD (skp tx a) 0 = 60 ∨ tx.getD (skp tx a) 0 = 62 ∨ tx.getD (skp tx a) 0 = 61 := by
        have := q.2
        unfold isSg at this
        rw [Bool.or_eq_true, Bool.or_eq_true, beq_iff_eq, beq_iff_eq, beq_iff_eq] at this
        rcases this with (w | w) | w
        · exact Or.inl w
        · exact Or.inr (Or.inl w)
        · exact Or.inr (Or.inr w)
      rcases sg with w | w | w
      · rw [w] at w4 ⊢
        simp (disch := first | assumption | omega) only [e300_0, e300_1, e300_4, e300_5, e300_8, e300_9, e300_11, e300_14, e300_15, e300_16, e300_17, e300_20, e300_21, e300_22, e300_23, e300_26, e300_27, e300_28, e300_29, e300_32, e300_33, e300_34, e300_35, e300_38, e300_39, e300_42, e300_45, e300_46, e300_48, e300_50, e300_52, e300_53, e300_54, e300_55, e300_58, e300_61, e300_62, e300_63, e300_66, e300_67, e300_68, e300_69, e300_72, e300_73, e300_74, e300_76, e300_79, e300_80, e300_81, e300_84, e300_85, e300_86, e300_89, e300_90, e300_91, e300_94, e300_95, e300_98, e300_99, e300_101, e300_103, e300_105, e300_107, e300_109, e300_110, e300_113, e300_116, e300_117, e300_118, e300_121, e300_122, e300_125, e300_126, e300_127, e300_128, e300_131, e300_133, e300_136, e300_137, e300_138, e300_139, e300_142, e300_143, e300_144, e300_145, e300_146, e300_149, e300_150, e300_151, e300_154, e300_158, e300_160, e300_163, e300_165, e300_167, e300_170, e300_172, e300_174, e300_177, e300_178, e300_179, e300_180, e300_183, e300_186, e300_187, e300_188, e300_189, e300_192, e300_193, e300_194, e300_197, e300_198, e300_201, e300_202, e300_203, e300_204, e300_206, e300_207, e300_208, e300_209, e300_212, e300_215, e300_216, e300_217, e300_220, e300_221, e300_222, e300_223, e300_224, e300_227, e300_228, e300_229, e300_230, e300_233, e300_234, e300_235, e300_238, e300_239, m300, ↓reduceIte, qg_0, qg_1, qg_2, qg_3, qg_4, qg_5, qg_6, qg_7, qg_8, qg_9, qg_10, qg_11, qg_12, qg_13, not_true_eq_false, not_false_eq_true, Nat.reduceBEq, Bool.false_eq_true, ex1, ex3, ex4, exF, qfit_i, qfit_l, qfit_r, qfit_n, qfit_b0, qfit_b1, qcat_i, qcat_r, qcat_n, qcat_l, qroom_0, qroom_c, List.map_cons, List.map_nil, List.sum_cons, List.sum_nil, Nat.reduceAdd, Nat.reduceMul, Nat.reduceLT, Nat.reduceLeDiff, Nat.reduceEqDiff, Nat.reduceSub, decide_true, true_and, and_true, and_self, if_true, if_false, Option.toList_some, Option.toList_none, List.cons_append, List.nil_append, qsL, qlong, List.length_cons, List.length_nil, iN_L, vM1, vM2, exI, iN_add, iN_mul, iN_le, iN_lt, iN_eq, Nat.le_refl, qfN0, qfN1, gM_53, m2, p3, gM_59, w4, r5, gM_62, w6, gM_58, k58b, p7]
      · rw [w] at w4 ⊢
        simp (disch := first | assumption | omega) only [e300_0, e300_1, e300_4, e300_5, e300_8, e300_9, e300_11, e300_14, e300_15, e300_16, e300_17, e300_20, e300_21, e300_22, e300_23, e300_26, e300_27, e300_28, e300_29, e300_32, e300_33, e300_34, e300_35, e300_38, e300_39, e300_42, e300_45, e300_46, e300_48, e300_50, e300_52, e300_53, e300_54, e300_55, e300_58, e300_61, e300_62, e300_63, e300_66, e300_67, e300_68, e300_69, e300_72, e300_73, e300_74, e300_76, e300_79, e300_80, e300_81, e300_84, e300_85, e300_86, e300_89, e300_90, e300_91, e300_94, e300_95, e300_98, e300_99, e300_101, e300_103, e300_105, e300_107, e300_109, e300_110, e300_113, e300_116, e300_117, e300_118, e300_121, e300_122, e300_125, e300_126, e300_127, e300_128, e300_131, e300_133, e300_136, e300_137, e300_138, e300_139, e300_142, e300_143, e300_144, e300_145, e300_146, e300_149, e300_150, e300_151, e300_154, e300_158, e300_160, e300_163, e300_165, e300_167, e300_170, e300_172, e300_174, e300_177, e300_178, e300_179, e300_180, e300_183, e300_186, e300_187, e300_188, e300_189, e300_192, e300_193, e300_194, e300_197, e300_198, e300_201, e300_202, e300_203, e300_204, e300_206, e300_207, e300_208, e300_209, e300_212, e300_215, e300_216, e300_217, e300_220, e300_221, e300_222, e300_223, e300_224, e300_227, e300_228, e300_229, e300_230, e300_233, e300_234, e300_235, e300_238, e300_239, m300, ↓reduceIte, qg_0, qg_1, qg_2, qg_3, qg_4, qg_5, qg_6, qg_7, qg_8, qg_9, qg_10, qg_11, qg_12, qg_13, not_true_eq_false, not_false_eq_true, Nat.reduceBEq, Bool.false_eq_true, ex1, ex3, ex4, exF, qfit_i, qfit_l, qfit_r, qfit_n, qfit_b0, qfit_b1, qcat_i, qcat_r, qcat_n, qcat_l, qroom_0, qroom_c, List.map_cons, List.map_nil, List.sum_cons, List.sum_nil, Nat.reduceAdd, Nat.reduceMul, Nat.reduceLT, Nat.reduceLeDiff, Nat.reduceEqDiff, Nat.reduceSub, decide_true, true_and, and_true, and_self, if_true, if_false, Option.toList_some, Option.toList_none, List.cons_append, List.nil_append, qsL, qlong, List.length_cons, List.length_nil, iN_L, vM1, vM2, exI, iN_add, iN_mul, iN_le, iN_lt, iN_eq, Nat.le_refl, qfN0, qfN1, gM_53, m2, p3, gM_59, w4, r5, gM_62, w6, gM_58, k58b, p7]
      · rw [w] at w4 ⊢
        simp (disch := first | assumption | omega) only [e300_0, e300_1, e300_4, e300_5, e300_8, e300_9, e300_11, e300_14, e300_15, e300_16, e300_17, e300_20, e300_21, e300_22, e300_23, e300_26, e300_27, e300_28, e300_29, e300_32, e300_33, e300_34, e300_35, e300_38, e300_39, e300_42, e300_45, e300_46, e300_48, e300_50, e300_52, e300_53, e300_54, e300_55, e300_58, e300_61, e300_62, e300_63, e300_66, e300_67, e300_68, e300_69, e300_72, e300_73, e300_74, e300_76, e300_79, e300_80, e300_81, e300_84, e300_85, e300_86, e300_89, e300_90, e300_91, e300_94, e300_95, e300_98, e300_99, e300_101, e300_103, e300_105, e300_107, e300_109, e300_110, e300_113, e300_116, e300_117, e300_118, e300_121, e300_122, e300_125, e300_126, e300_127, e300_128, e300_131, e300_133, e300_136, e300_137, e300_138, e300_139, e300_142, e300_143, e300_144, e300_145, e300_146, e300_149, e300_150, e300_151, e300_154, e300_158, e300_160, e300_163, e300_165, e300_167, e300_170, e300_172, e300_174, e300_177, e300_178, e300_179, e300_180, e300_183, e300_186, e300_187, e300_188, e300_189, e300_192, e300_193, e300_194, e300_197, e300_198, e300_201, e300_202, e300_203, e300_204, e300_206, e300_207, e300_208, e300_209, e300_212, e300_215, e300_216, e300_217, e300_220, e300_221, e300_222, e300_223, e300_224, e300_227, e300_228, e300_229, e300_230, e300_233, e300_234, e300_235, e300_238, e300_239, m300, ↓reduceIte, qg_0, qg_1, qg_2, qg_3, qg_4, qg_5, qg_6, qg_7, qg_8, qg_9, qg_10, qg_11, qg_12, qg_13, not_true_eq_false, not_false_eq_true, Nat.reduceBEq, Bool.false_eq_true, ex1, ex3, ex4, exF, qfit_i, qfit_l, qfit_r, qfit_n, qfit_b0, qfit_b1, qcat_i, qcat_r, qcat_n, qcat_l, qroom_0, qroom_c, List.map_cons, List.map_nil, List.sum_cons, List.sum_nil, Nat.reduceAdd, Nat.reduceMul, Nat.reduceLT, Nat.reduceLeDiff, Nat.reduceEqDiff, Nat.reduceSub, decide_true, true_and, and_true, and_self, if_true, if_false, Option.toList_some, Option.toList_none, List.cons_append, List.nil_append, qsL, qlong, List.length_cons, List.length_nil, iN_L, vM1, vM2, exI, iN_add, iN_mul, iN_le, iN_lt, iN_eq, Nat.le_refl, qfN0, qfN1, gM_53, m2, p3, gM_59, w4, r5, gM_62, w6, gM_58, k58b, p7]
    · rw [ep]
      show rdQ h g7 r (pB (pNum tx (skp tx a + 1) 0 999) _) _
      cases e : pNum tx (skp tx a + 1) 0 999 with
      | inl f =>
        obtain ⟨z1, z2, z3⟩ := rdQ_l z e
        exact ⟨z1, z2, by rw [m7, if_neg (by decide)]; exact z3⟩
      | inr f =>
        obtain ⟨z1, z2, z3, z4⟩ := rdQ_r z e
        refine ⟨z1, by rw [m7, if_neg (by decide), z2, m4, if_neg (by decide)]; exact k52, by rw [m7, if_neg (by decide)]; exact z3, by rw [m7, if_pos rfl], ?_, ?_, ?_⟩
        · rw [hh7, if_neg (by omega), hh4, if_neg (by omega), hh2, hh1, if_pos rfl]
        · rw [hh7, if_neg (by omega), hh4, if_pos rfl]
        · rw [hh7, if_pos rfl]; exact z4
  · have ep : pChr tx a isSg = .inl (1, skp tx a) := if_neg q
    obtain ⟨g3, eg3⟩ : ∃ g3, g3 = mI g2 52 (iN (skp tx a)) := ⟨_, rfl⟩
    have c3 : Ch [96] [52, 53, 58, 62] h g3 := c2'.trans (by rw [eg3]; exact Ch.setI s2 (by decide) (by decide))
    have sf : ∀ R, qMC (d + 3) 293 [.ref 55, .int (iN 1), .int (iN (skp tx a))] g2 R ↔ R = (some (.int (iN 1)), g3) := fun R => by rw [eg3]; exact s_fails s2
    refine ⟨g3, iN 1, fun R => ?_, c3, ?_, fun k h1 h2 h3 => by rw [eg3, hi_mI s2, hh2, hh1, if_neg h1]⟩
    · rw [go R, e300_156]
      have n1 : ¬ hrV tx (skp tx a) = iN 60 ∧ ¬ hrV tx (skp tx a) = iN 62 ∧ ¬ hrV tx (skp tx a) = iN 61 := by
        unfold hrV
        split
        · rename_i z
          have v2 := (t.2.2 _ z).2
          have nq : ¬ isSg (tx.getD (skp tx a) 0) = true := fun w => q ⟨z, w⟩
          unfold isSg at nq
          rw [Bool.or_eq_true, Bool.or_eq_true, beq_iff_eq, beq_iff_eq, beq_iff_eq] at nq
          rw [iN_eq (by omega) (by omega), iN_eq (by omega) (by omega), iN_eq (by omega) (by omega)]
          omega
        · decide
      obtain ⟨n1, n2, n3⟩ := n1
      simp (disch := first | assumption | omega) only [e300_0, e300_1, e300_4, e300_5, e300_8, e300_9, e300_11, e300_14, e300_15, e300_16, e300_17, e300_20, e300_21, e300_22, e300_23, e300_26, e300_27, e300_28, e300_29, e300_32, e300_33, e300_34, e300_35, e300_38, e300_39, e300_42, e300_45, e300_46, e300_48, e300_50, e300_52, e300_53, e300_54, e300_55, e300_58, e300_61, e300_62, e300_63, e300_66, e300_67, e300_68, e300_69, e300_72, e300_73, e300_74, e300_76, e300_79, e300_80, e300_81, e300_84, e300_85, e300_86, e300_89, e300_90, e300_91, e300_94, e300_95, e300_98, e300_99, e300_101, e300_103, e300_105, e300_107, e300_109, e300_110, e300_113, e300_116, e300_117, e300_118, e300_121, e300_122, e300_125, e300_126, e300_127, e300_128, e300_131, e300_133, e300_136, e300_137, e300_138, e300_139, e300_142, e300_143, e300_144, e300_145, e300_146, e300_149, e300_150, e300_151, e300_154, e300_158, e300_160, e300_163, e300_165, e300_167, e300_170, e300_172, e300_174, e300_177, e300_178, e300_179, e300_180, e300_183, e300_186, e300_187, e300_188, e300_189, e300_192, e300_193, e300_194, e300_197, e300_198, e300_201, e300_202, e300_203, e300_204, e300_206, e300_207, e300_208, e300_209, e300_212, e300_215, e300_216, e300_217, e300_220, e300_221, e300_222, e300_223, e300_224, e300_227, e300_228, e300_229, e300_230, e300_233, e300_234, e300_235, e300_238, e300_239, m300, ↓reduceIte, qg_0, qg_1, qg_2, qg_3, qg_4, qg_5, qg_6, qg_7, qg_8, qg_9, qg_10, qg_11, qg_12, qg_13, not_true_eq_false, not_false_eq_true, Nat.reduceBEq, Bool.false_eq_true, ex1, ex3, ex4, exF, qfit_i, qfit_l, qfit_r, qfit_n, qfit_b0, qfit_b1, qcat_i, qcat_r, qcat_n, qcat_l, qroom_0, qroom_c, List.map_cons, List.map_nil, List.sum_cons, List.sum_nil, Nat.reduceAdd, Nat.reduceMul, Nat.reduceLT, Nat.reduceLeDiff, Nat.reduceEqDiff, Nat.reduceSub, decide_true, true_and, and_true, and_self, if_true, if_false, Option.toList_some, Option.toList_none, List.cons_append, List.nil_append, qsL, qlong, List.length_cons, List.length_nil, iN_L, vM1, vM2, exI, iN_add, iN_mul, iN_le, iN_lt, iN_eq, Nat.le_refl, qfN0, qfN1, n1, n2, n3, gM_53, m2, sf]
    · rw [ep]
      exact ⟨rfl, by omega, by rw [eg3, mi_mI, if_pos rfl]⟩
theorem CmRow.snoc {a : Nat} {h' : qH} {l : List clm} {c : clm} (v : CmRow h a l) (h8 : l.length < 8) (e0 : hi h' a (4 * l.length) = bV c.1) (e1 : hi h' a (4 * l.length + 1) = iN c.2.1) (e2 : hi h' a (4 * l.length + 2) = iN c.2.2.1) (e3 : hi h' a (4 * l.length + 3) = iN c.2.2.2) (old : ∀ k, k < 4 * l.length → hi h' a k = hi h a k) : CmRow h' a (l ++ [c]) := by
  refine ⟨by rw [List.length_append, List.length_singleton]; omega, fun k hk j hj => ?_⟩
  rw [List.length_append, List.length_singleton] at hk
  rw [getD_app]
  by_cases e : k < l.length
  · rw [if_pos e, old _ (by omega)]; exact v.2 k e j hj
  · have e' : k = l.length := by omega
    subst e'
    rw [if_neg e, if_pos rfl]
    rcases (show j = 0 ∨ j = 1 ∨ j = 2 ∨ j = 3 by omega) with rfl | rfl | rfl | rfl
    · exact e0
    · exact e1
    · exact e2
    · exact e3
set_option maxRecDepth 100000 in
set_option maxHeartbeats 16000000 in
theorem s_readClaim {a cn fr : Nat} {fc : List clm} (s : ShM h) (t : TxV h tx) (ha : a ≤ tx.length) (m : mi h 53 = iN a) (m54 : mi h 54 = iN cn) (v : FcV h fc) (h8 : cn + fc.length ≤ 8) : ∃ h' r, (∀ R, qMC (d + 4) 300 [.ref 55, .int (iN fr)] h R ↔ R = (some (.int r), h')) ∧ Ch [96] [52, 53, 58, 60, 61, 62] h h' ∧ rdQ h h' r (if cn + fc.length = 8 then .inl (3, fr) else pClm tx a) (fun q => mi h' 53 = iN q.1 ∧ FcV h' (fc ++ [q.2])) := by
  obtain ⟨v1, m58⟩ := v
  by_cases q : cn + fc.length = 8
  · rw [if_pos q]
    obtain ⟨g3, eg3⟩ : ∃ g3, g3 = mI h 52 (iN fr) := ⟨_, rfl⟩
    have c3 : Ch [96] [52, 53, 58, 60, 61, 62] h g3 := by rw [eg3]; exact Ch.setI s (by decide) (by decide)
    have sf : ∀ R, qMC (d + 3) 293 [.ref 55, .int (iN 3), .int (iN fr)] h R ↔ R = (some (.int (iN 3)), g3) := fun R => by rw [eg3]; exact s_fails s
    refine ⟨g3, iN 3, fun R => ?_, c3, rfl, by omega, by rw [eg3, mi_mI, if_pos rfl]⟩
    simp (disch := first | assumption | omega) only [e300_0, e300_1, e300_4, e300_5, e300_8, e300_9, e300_11, e300_14, e300_15, e300_16, e300_17, e300_20, e300_21, e300_22, e300_23, e300_26, e300_27, e300_29, e300_32, e300_33, e300_34, e300_35, e300_38, e300_39, e300_42, e300_45, e300_46, e300_48, e300_50, e300_52, e300_53, e300_54, e300_55, e300_58, e300_61, e300_62, e300_63, e300_66, e300_67, e300_68, e300_69, e300_72, e300_73, e300_74, e300_76, e300_79, e300_80, e300_81, e300_84, e300_85, e300_86, e300_89, e300_90, e300_91, e300_94, e300_95, e300_98, e300_99, e300_101, e300_103, e300_105, e300_107, e300_109, e300_110, e300_113, e300_116, e300_117, e300_118, e300_121, e300_122, e300_125, e300_126, e300_127, e300_128, e300_131, e300_132, e300_133, e300_136, e300_137, e300_138, e300_139, e300_142, e300_143, e300_144, e300_145, e300_146, e300_149, e300_150, e300_151, e300_154, e300_156, e300_158, e300_160, e300_163, e300_165, e300_167, e300_170, e300_172, e300_174, e300_177, e300_178, e300_179, e300_180, e300_183, e300_186, e300_187, e300_188, e300_189, e300_192, e300_193, e300_194, e300_197, e300_198, e300_201, e300_202, e300_203, e300_204, e300_206, e300_207, e300_208, e300_209, e300_212, e300_215, e300_216, e300_217, e300_220, e300_221, e300_222, e300_223, e300_224, e300_227, e300_228, e300_229, e300_230, e300_233, e300_234, e300_235, e300_238, e300_239, m300, ↓reduceIte, qg_0, qg_1, qg_2, qg_3, qg_4, qg_5, qg_6, qg_7, qg_8, qg_9, qg_10, qg_11, qg_12, qg_13, not_true_eq_false, not_false_eq_true, Nat.reduceBEq, Bool.false_eq_true, ex1, ex3, ex4, exF, qfit_i, qfit_l, qfit_r, qfit_n, qfit_b0, qfit_b1, qcat_i, qcat_r, qcat_n, qcat_l, qroom_0, qroom_c, List.map_cons, List.map_nil, List.sum_cons, List.sum_nil, Nat.reduceAdd, Nat.reduceMul, Nat.reduceLT, Nat.reduceLeDiff, Nat.reduceEqDiff, Nat.reduceSub, decide_true, true_and, and_true, and_self, if_true, if_false, Option.toList_some, Option.toList_none, List.cons_append, List.nil_append, qsL, qlong, List.length_cons, List.length_nil, iN_L, vM1, vM2, exI, iN_add, iN_mul, iN_le, iN_lt, iN_eq, Nat.le_refl, qfN0, qfN1, gM_54, m54, gM_58, m58, q, sf]
  · rw [if_neg q]
    have hn : fc.length < 8 := by omega
    have start : ∀ R, qMC (d + 4) 300 [.ref 55, .int (iN fr)] h R ↔ qEv (d + 3) 0 qk_300 28 [some (.ref 55), some (.int (iN fr)), some (.int (iN (4 * fc.length))), none, none] [] h R := by
      intro R
      simp (disch := first | assumption | omega) only [e300_0, e300_1, e300_4, e300_5, e300_8, e300_9, e300_11, e300_14, e300_15, e300_16, e300_17, e300_20, e300_21, e300_22, e300_23, e300_26, e300_27, e300_29, e300_32, e300_33, e300_34, e300_35, e300_38, e300_39, e300_42, e300_45, e300_46, e300_48, e300_50, e300_52, e300_53, e300_54, e300_55, e300_58, e300_61, e300_62, e300_63, e300_66, e300_67, e300_68, e300_69, e300_72, e300_73, e300_74, e300_76, e300_79, e300_80, e300_81, e300_84, e300_85, e300_86, e300_89, e300_90, e300_91, e300_94, e300_95, e300_98, e300_99, e300_101, e300_103, e300_105, e300_107, e300_109, e300_110, e300_113, e300_116, e300_117, e300_118, e300_121, e300_122, e300_125, e300_126, e300_127, e300_128, e300_131, e300_132, e300_133, e300_136, e300_137, e300_138, e300_139, e300_142, e300_143, e300_144, e300_145, e300_146, e300_149, e300_150, e300_151, e300_154, e300_156, e300_158, e300_160, e300_163, e300_165, e300_167, e300_170, e300_172, e300_174, e300_177, e300_178, e300_179, e300_180, e300_183, e300_186, e300_187, e300_188, e300_189, e300_192, e300_193, e300_194, e300_197, e300_198, e300_201, e300_202, e300_203, e300_204, e300_206, e300_207, e300_208, e300_209, e300_212, e300_215, e300_216, e300_217, e300_220, e300_221, e300_222, e300_223, e300_224, e300_227, e300_228, e300_229, e300_230, e300_233, e300_234, e300_235, e300_238, e300_239, m300, ↓reduceIte, qg_0, qg_1, qg_2, qg_3, qg_4, qg_5, qg_6, qg_7, qg_8, qg_9, qg_10, qg_11, qg_12, qg_13, not_true_eq_false, not_false_eq_true, Nat.reduceBEq, Bool.false_eq_true, ex1, ex3, ex4, exF, qfit_i, qfit_l, qfit_r, qfit_n, qfit_b0, qfit_b1, qcat_i, qcat_r, qcat_n, qcat_l, qroom_0, qroom_c, List.map_cons, List.map_nil, List.sum_cons, List.sum_nil, Nat.reduceAdd, Nat.reduceMul, Nat.reduceLT, Nat.reduceLeDiff, Nat.reduceEqDiff, Nat.reduceSub, decide_true, true_and, and_true, and_self, if_true, if_false, Option.toList_some, Option.toList_none, List.cons_append, List.nil_append, qsL, qlong, List.length_cons, List.length_nil, iN_L, vM1, vM2, exI, iN_add, iN_mul, iN_le, iN_lt, iN_eq, Nat.le_refl, qfN0, qfN1, gM_54, m54, gM_58, m58, q]
    obtain ⟨g1, r, r1, c1, z, o1⟩ := rc_who (d := d) (n := fc.length) (fr := fr) s t ha m hn
    have s1 := c1.sh
    have t1 := t.ch c1 (by decide) (by decide)
    have c1' : Ch [96] [52, 53, 58, 60, 61, 62] h g1 := c1.mono (by decide) (by decide)
    unfold pClm
    cases e : pWho tx a with
    | inl f =>
      obtain ⟨z1, z2, z3⟩ := rdQ_l z e
      subst z1
      exact ⟨g1, iN f.1, fun R => (start R).trans ((r1 R).trans (rc_f90 z2 R)), c1', rfl, z2, z3⟩
    | inr f =>
      obtain ⟨z1, z2, z3, z4⟩ := rdQ_r z e
      subst z1
      have fb : f.1 ≤ tx.length := by
        unfold pWho at e
        split at e
        · obtain ⟨x, x1, x2⟩ := pB_ok e
          cases x2
          exact (pNum_ok ha x1).2.1
        · obtain ⟨x, x1, x2⟩ := pB_ok e
          cases x2
          exact (pWrd_ok ha x1).2
      obtain ⟨g2, r', r2, c2, y⟩ := rc_kind (d := d) (b := 4 * fc.length) (x1 := some (.int (iN fr))) s1 t1 fb z3
      have s2 := c2.sh
      have t2 := t1.ch c2 (by decide) (by decide)
      have c2' : Ch [96] [52, 53, 58, 60, 61, 62] h g2 := c1'.trans (c2.mono (by decide) (by decide))
      cases e2 : pWrd tx f.1 w_faces with
      | inl f2 =>
        obtain ⟨y1, y2, y3⟩ := rdQ_l (k := f2.1) (p := f2.2) y (by rw [e2]; rfl)
        subst y1
        refine ⟨g2, iN f2.1, fun R => (start R).trans ((r1 R).trans ((r2 R).trans (rc_f132 y2 R))), c2', ?_⟩
        show rdQ h g2 _ (pB (pWrd tx f.1 w_faces) _) _
        rw [e2]
        exact ⟨rfl, y2, y3⟩
      | inr p2 =>
        obtain ⟨-, p2b⟩ := pWrd_ok fb e2
        cases e3 : pNum tx p2 0 3 with
        | inl f3 =>
          obtain ⟨y1, y2, y3⟩ := rdQ_l (k := f3.1) (p := f3.2) y (by rw [e2]; exact e3)
          subst y1
          refine ⟨g2, iN f3.1, fun R => (start R).trans ((r1 R).trans ((r2 R).trans (rc_f132 y2 R))), c2', ?_⟩
          show rdQ h g2 _ (pB (pWrd tx f.1 w_faces) _) _
          rw [e2]
          show rdQ h g2 _ (pB (pNum tx p2 0 3) _) _
          rw [e3]
          exact ⟨rfl, y2, y3⟩
        | inr p3 =>
          obtain ⟨y1, y2, y3, y4⟩ := rdQ_r (a := p3) y (by rw [e2]; exact e3)
          subst y1
          obtain ⟨g3, r3, rr3, c3, x, o3⟩ := rc_sign (d := d) (n := fc.length) (K := p3.2) (x1 := some (.int (iN fr))) s2 t2 (pNum_ok p2b e3).2.1 y3 y4 (by rw [c2.mi (by decide), c1.mi (by decide)]; exact m58) hn
          have c3' : Ch [96] [52, 53, 58, 60, 61, 62] h g3 := c2'.trans (c3.mono (by decide) (by decide))
          refine ⟨g3, r3, fun R => (start R).trans ((r1 R).trans ((r2 R).trans (rr3 R))), c3', ?_⟩
          show rdQ h g3 _ (pB (pWrd tx f.1 w_faces) _) _
          rw [e2]
          show rdQ h g3 _ (pB (pNum tx p2 0 3) _) _
          rw [e3]
          show rdQ h g3 _ (pB (pChr tx p3.1 isSg) _) _
          have old : ∀ k, k < 4 * fc.length → hi g3 96 k = hi h 96 k := fun k hk => by rw [o3 k (by omega) (by omega) (by omega), c2.hi (by decide) (by decide), o1 k (by omega)]
          cases e4 : pChr tx p3.1 isSg with
          | inl f4 =>
            obtain ⟨x1, x2, x3⟩ := rdQ_l (k := f4.1) (p := f4.2) x (by rw [e4]; rfl)
            exact ⟨x1, x2, x3⟩
          | inr p4 =>
            show rdQ h g3 _ (pB (pNum tx p4.1 0 999) _) _
            cases e5 : pNum tx p4.1 0 999 with
            | inl f5 =>
              obtain ⟨x1, x2, x3⟩ := rdQ_l (k := f5.1) (p := f5.2) x (by rw [e4]; show pB (pNum tx p4.1 0 999) _ = _; rw [e5]; rfl)
              exact ⟨x1, x2, x3⟩
            | inr p5 =>
              obtain ⟨x1, x2, x3, x4, x5, x6, x7⟩ := rdQ_r (a := (p5.1, p4.2, p5.2)) x (by rw [e4]; show pB (pNum tx p4.1 0 999) _ = _; rw [e5]; rfl)
              refine ⟨x1, by rw [x2, y2, z2], x3, v1.snoc hn ?_ x5 x6 x7 old, by rw [x4, List.length_append, List.length_singleton]⟩
              rw [o3 _ (by omega) (by omega) (by omega), c2.hi (by decide) (by decide)]
              exact z4
end CLSR

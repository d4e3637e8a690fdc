/-! ===== THE REFERENCE: make, the facets ===== -/
/-- a set of points by the numbers of its corners -/
def sqz (S : Nat → Nat) (n f j : Nat) : Nat → Nat
  | 0 => 0
  | p + 1 => sqz S n f j p ||| (if (S j).testBit p = true ∧ cor S n f p = true then 2 ^ rk S n f p else 0)
theorem sqz_lt {S : Nat → Nat} {n f j : Nat} : ∀ p, p ≤ 16 → sqz S n f j p < 65536
  | 0, _ => by show 0 < 65536; omega
  | p + 1, hp => by
    rw [sqz]
    have h1 : rk S n f p ≤ p := cntN_le
    refine Nat.or_lt_two_pow (n := 16) (sqz_lt p (by omega)) ?_
    split
    · exact Nat.pow_lt_pow_right (by decide) (by omega)
    · omega
def insP (O : Nat → Nat) (j x : Nat) : Nat → Nat := fun k => if k < j then O k else if k = j then x else O (k - 1)
theorem insN_P (T : Nat → Nat) (x m : Nat) : insN T x m = insP T (posI T x m) x := rfl
theorem insL_row {g : Nat → Int64} {C m j t k : Nat} {Z : Nat → Int64} (hj : j ≤ m) (hk : k < m + 1) (ht : t < 5) : insL g C m j Z 5 (C + 5 * k + t) = if k < j then g (C + 5 * k + t) else if k = j then Z t else g (C + 5 * (k - 1) + t) := by
  unfold insL
  by_cases h1 : k < j
  · rw [if_pos h1, if_neg (by omega)]
    unfold shL; rw [if_neg (by omega)]
  · rw [if_neg h1]
    by_cases h2 : k = j
    · rw [if_pos h2, if_pos (by omega), show C + 5 * k + t - (C + 5 * j) = t by omega]
    · rw [if_neg h2, if_neg (by omega)]
      unfold shL
      rw [if_pos (by omega), show C + 5 * k + t - 5 = C + 5 * (k - 1) + t by omega]
theorem insL_out {g : Nat → Int64} {C m j x : Nat} {Z : Nat → Int64} (hj : j ≤ m) (hx : x < C ∨ C + 5 * m + 5 ≤ x) : insL g C m j Z 5 x = g x := by
  unfold insL
  rw [if_neg (by omega)]
  unfold shL; rw [if_neg (by omega)]
section MAKEF
variable {d n f i D : Nat} {h : qH} {S : Nat → Nat} {Q : Nat → Nat → Int}
/-- the first k facets stand in their row -/
def mkF (h : qH) (i n f D : Nat) (S : Nat → Nat) (Q : Nat → Nat → Int) (k : Nat) (T O : Nat → Nat) (h' : qH) : Prop := Ch [60, 61, 62] [] h h' ∧ hi h' 60 (4 * i + D - 1) = iN k ∧ srt T k ∧
  (∀ j, j < k → (hi h' 61 (208 * (4 * i + D - 1) + j) = iN (T j) ∧ T j < 65536) ∧ T j = sqz S n f (O j) n ∧ O j < k ∧ ∀ t, t < 5 → hl h' 62 (520 * i + 5 * j + t) = lZ (Q (O j) t)) ∧
  (∀ a, a < k → ∃ j, j < k ∧ O j = a) ∧ (∀ x, x ≠ 4 * i + D - 1 → hi h' 60 x = hi h 60 x) ∧ (∀ x, x < 208 * (4 * i + D - 1) ∨ 208 * (4 * i + D - 1) + 104 ≤ x → hi h' 61 x = hi h 61 x) ∧ ∀ x, x < 520 * i ∨ 520 * i + 520 ≤ x → hl h' 62 x = hl h 62 x
def mkFP (h : qH) (i n f D : Nat) (S : Nat → Nat) (Q : Nat → Nat → Int) (x1 x3 : Int32) : Nat → qL → qH → Prop := fun k L h' => ∃ T O x5 x6, L = [some (.ref 55), some (.int x1), some (.int (iN i)), some (.int x3), some (.int (iN k)), x5, x6] ∧ qlong x5 = false ∧ mkF h i n f D S Q k T O h'
set_option maxRecDepth 100000 in
set_option maxHeartbeats 16000000 in
theorem mk_set {x1 x3 : Int32} {x5 x6 : Option Value} {k : Nat} (s : ShM h) (hn : mi h 9 = iN n) (h16 : n ≤ 16) (fd : FdP h f S Q) (hf : f ≤ 104) (hk : k < f) (pl : ∀ p, p < n → hi h 68 p = if cor S n f p = true then iN (rk S n f p) else -iN 1) (R : qRes) : qEv (d + 4) 0 qk_210 150 [some (.ref 55), some (.int x1), some (.int (iN i)), some (.int x3), some (.int (iN k)), x5, x6] [] h R ↔ qEv (d + 4) 0 qk_210 224 [some (.ref 55), some (.int x1), some (.int (iN i)), some (.int x3), some (.int (iN k)), some (.int (iN (sqz S n f k n))), some (.int (iN n))] [] h R := by
  have hS := (fd.2 k hk).1
  rw [e210_150]
  simp (disch := first | assumption | omega) only [e210_0, e210_1, e210_4, e210_5, e210_6, e210_7, e210_8, e210_10, e210_12, e210_13, e210_16, e210_19, e210_20, e210_23, e210_25, e210_26, e210_27, e210_28, e210_30, e210_33, e210_36, e210_37, e210_40, e210_42, e210_43, e210_44, e210_45, e210_47, e210_49, e210_50, e210_53, e210_54, e210_57, e210_59, e210_60, e210_61, e210_62, e210_63, e210_64, e210_65, e210_67, e210_68, e210_69, e210_72, e210_73, e210_75, e210_76, e210_78, e210_79, e210_80, e210_81, e210_84, e210_87, e210_90, e210_93, e210_96, e210_97, e210_100, e210_101, e210_102, e210_105, e210_106, e210_107, e210_110, e210_111, e210_112, e210_113, e210_114, e210_117, e210_118, e210_119, e210_120, e210_121, e210_123, e210_125, e210_126, e210_129, e210_130, e210_133, e210_134, e210_135, e210_136, e210_138, e210_139, e210_140, e210_141, e210_144, e210_147, e210_148, e210_152, e210_153, e210_156, e210_159, e210_160, e210_162, e210_163, e210_167, e210_168, e210_171, e210_174, e210_176, e210_177, e210_180, e210_182, e210_183, e210_185, e210_186, e210_187, e210_188, e210_189, e210_192, e210_193, e210_196, e210_198, e210_199, e210_202, e210_203, e210_204, e210_207, e210_209, e210_210, e210_211, e210_214, e210_215, e210_216, e210_218, e210_221, e210_225, e210_226, e210_228, e210_230, e210_233, e210_236, e210_239, e210_240, e210_241, e210_244, e210_245, e210_246, e210_249, e210_250, e210_251, e210_254, e210_255, m210, ↓reduceIte, qg_0, qg_1, qg_2, qg_3, qg_4, qg_5, qg_6, qg_7, qg_8, qg_9, qg_10, qg_11, qg_12, qg_13, not_true_eq_false, not_false_eq_true, Nat.reduceBEq, Bool.false_eq_true, ex1, ex3, ex4, exF, qfit_i, qfit_l, qfit_r, qfit_n, qfit_b0, qfit_b1, qcat_i, qcat_r, qcat_n, qcat_l, qroom_0, qroom_c, List.map_cons, List.map_nil, List.sum_cons, List.sum_nil, Nat.reduceAdd, Nat.reduceMul, Nat.reduceLT, Nat.reduceLeDiff, Nat.reduceEqDiff, Nat.reduceSub, decide_true, true_and, and_true, and_self, if_true, if_false, Option.toList_some, Option.toList_none, List.cons_append, List.nil_append, qsL, qlong, List.length_cons, List.length_nil, iN_L, gM_11, fd.1, iN_le, show ¬ f ≤ k by omega]
  refine Iff.trans (loop_up (n := n) (L := fun p => [some (.ref 55), some (.int x1), some (.int (iN i)), some (.int x3), some (.int (iN k)), some (.int (iN (sqz S n f k p))), some (.int (iN p))]) (H := fun _ => h) ?_) ?_
  · intro p hp
    try dsimp only
    rw [e210_165, sqz]
    have hr : rk S n f p ≤ p := cntN_le
    have hneg : -iN 1 < iN 0 := by decide
    by_cases hb : (S k).testBit p = true
    · by_cases hc : cor S n f p = true
      · have plp : hi h 68 p = iN (rk S n f p) := by rw [pl p hp, if_pos hc]
        simp (disch := first | assumption | omega) only [e210_0, e210_1, e210_4, e210_5, e210_6, e210_7, e210_8, e210_10, e210_12, e210_13, e210_16, e210_19, e210_20, e210_23, e210_25, e210_26, e210_27, e210_28, e210_30, e210_33, e210_36, e210_37, e210_40, e210_42, e210_43, e210_44, e210_45, e210_47, e210_49, e210_50, e210_53, e210_54, e210_57, e210_59, e210_60, e210_61, e210_62, e210_63, e210_64, e210_65, e210_67, e210_68, e210_69, e210_72, e210_73, e210_75, e210_76, e210_78, e210_79, e210_80, e210_81, e210_84, e210_87, e210_90, e210_93, e210_96, e210_97, e210_100, e210_101, e210_102, e210_105, e210_106, e210_107, e210_110, e210_111, e210_112, e210_113, e210_114, e210_117, e210_118, e210_119, e210_120, e210_121, e210_123, e210_125, e210_126, e210_129, e210_130, e210_133, e210_134, e210_135, e210_136, e210_138, e210_139, e210_140, e210_141, e210_144, e210_147, e210_148, e210_152, e210_153, e210_156, e210_159, e210_160, e210_162, e210_163, e210_167, e210_168, e210_171, e210_174, e210_176, e210_177, e210_180, e210_182, e210_183, e210_185, e210_186, e210_187, e210_188, e210_189, e210_192, e210_193, e210_196, e210_198, e210_199, e210_202, e210_203, e210_204, e210_207, e210_209, e210_210, e210_211, e210_214, e210_215, e210_216, e210_218, e210_221, e210_225, e210_226, e210_228, e210_230, e210_233, e210_236, e210_239, e210_240, e210_241, e210_244, e210_245, e210_246, e210_249, e210_250, e210_251, e210_254, e210_255, m210, ↓reduceIte, qg_0, qg_1, qg_2, qg_3, qg_4, qg_5, qg_6, qg_7, qg_8, qg_9, qg_10, qg_11, qg_12, qg_13, not_true_eq_false, not_false_eq_true, Nat.reduceBEq, Bool.false_eq_true, ex1, ex3, ex4, exF, qfit_i, qfit_l, qfit_r, qfit_n, qfit_b0, qfit_b1, qcat_i, qcat_r, qcat_n, qcat_l, qroom_0, qroom_c, List.map_cons, List.map_nil, List.sum_cons, List.sum_nil, Nat.reduceAdd, Nat.reduceMul, Nat.reduceLT, Nat.reduceLeDiff, Nat.reduceEqDiff, Nat.reduceSub, decide_true, true_and, and_true, and_self, if_true, if_false, Option.toList_some, Option.toList_none, List.cons_append, List.nil_append, qsL, qlong, List.length_cons, List.length_nil, iN_L, gM_9, hn, iN_le, show ¬ n ≤ p by omega, gM_12, rM_64, hS.1, iN_bit, hb, gM_16, rM_68, plp, iN_lt, Nat.not_lt_zero, iN_shl1, iN_or, hc, exI, iN_add]
      · have plp : hi h 68 p = -iN 1 := by rw [pl p hp, if_neg hc]
        simp (disch := first | assumption | omega) only [e210_0, e210_1, e210_4, e210_5, e210_6, e210_7, e210_8, e210_10, e210_12, e210_13, e210_16, e210_19, e210_20, e210_23, e210_25, e210_26, e210_27, e210_28, e210_30, e210_33, e210_36, e210_37, e210_40, e210_42, e210_43, e210_44, e210_45, e210_47, e210_49, e210_50, e210_53, e210_54, e210_57, e210_59, e210_60, e210_61, e210_62, e210_63, e210_64, e210_65, e210_67, e210_68, e210_69, e210_72, e210_73, e210_75, e210_76, e210_78, e210_79, e210_80, e210_81, e210_84, e210_87, e210_90, e210_93, e210_96, e210_97, e210_100, e210_101, e210_102, e210_105, e210_106, e210_107, e210_110, e210_111, e210_112, e210_113, e210_114, e210_117, e210_118, e210_119, e210_120, e210_121, e210_123, e210_125, e210_126, e210_129, e210_130, e210_133, e210_134, e210_135, e210_136, e210_138, e210_139, e210_140, e210_141, e210_144, e210_147, e210_148, e210_152, e210_153, e210_156, e210_159, e210_160, e210_162, e210_163, e210_167, e210_168, e210_171, e210_174, e210_176, e210_177, e210_180, e210_182, e210_183, e210_185, e210_186, e210_187, e210_188, e210_189, e210_192, e210_193, e210_196, e210_198, e210_199, e210_202, e210_203, e210_204, e210_207, e210_209, e210_210, e210_211, e210_214, e210_215, e210_216, e210_218, e210_221, e210_225, e210_226, e210_228, e210_230, e210_233, e210_236, e210_239, e210_240, e210_241, e210_244, e210_245, e210_246, e210_249, e210_250, e210_251, e210_254, e210_255, m210, ↓reduceIte, qg_0, qg_1, qg_2, qg_3, qg_4, qg_5, qg_6, qg_7, qg_8, qg_9, qg_10, qg_11, qg_12, qg_13, not_true_eq_false, not_false_eq_true, Nat.reduceBEq, Bool.false_eq_true, ex1, ex3, ex4, exF, qfit_i, qfit_l, qfit_r, qfit_n, qfit_b0, qfit_b1, qcat_i, qcat_r, qcat_n, qcat_l, qroom_0, qroom_c, List.map_cons, List.map_nil, List.sum_cons, List.sum_nil, Nat.reduceAdd, Nat.reduceMul, Nat.reduceLT, Nat.reduceLeDiff, Nat.reduceEqDiff, Nat.reduceSub, decide_true, true_and, and_true, and_self, if_true, if_false, Option.toList_some, Option.toList_none, List.cons_append, List.nil_append, qsL, qlong, List.length_cons, List.length_nil, iN_L, gM_9, hn, iN_le, show ¬ n ≤ p by omega, gM_12, rM_64, hS.1, iN_bit, hb, gM_16, rM_68, plp, hneg, iN_or, hc, exI, iN_add, and_false]
    · simp (disch := first | assumption | omega) only [e210_0, e210_1, e210_4, e210_5, e210_6, e210_7, e210_8, e210_10, e210_12, e210_13, e210_16, e210_19, e210_20, e210_23, e210_25, e210_26, e210_27, e210_28, e210_30, e210_33, e210_36, e210_37, e210_40, e210_42, e210_43, e210_44, e210_45, e210_47, e210_49, e210_50, e210_53, e210_54, e210_57, e210_59, e210_60, e210_61, e210_62, e210_63, e210_64, e210_65, e210_67, e210_68, e210_69, e210_72, e210_73, e210_75, e210_76, e210_78, e210_79, e210_80, e210_81, e210_84, e210_87, e210_90, e210_93, e210_96, e210_97, e210_100, e210_101, e210_102, e210_105, e210_106, e210_107, e210_110, e210_111, e210_112, e210_113, e210_114, e210_117, e210_118, e210_119, e210_120, e210_121, e210_123, e210_125, e210_126, e210_129, e210_130, e210_133, e210_134, e210_135, e210_136, e210_138, e210_139, e210_140, e210_141, e210_144, e210_147, e210_148, e210_152, e210_153, e210_156, e210_159, e210_160, e210_162, e210_163, e210_167, e210_168, e210_171, e210_174, e210_176, e210_177, e210_180, e210_182, e210_183, e210_185, e210_186, e210_187, e210_188, e210_189, e210_192, e210_193, e210_196, e210_198, e210_199, e210_202, e210_203, e210_204, e210_207, e210_209, e210_210, e210_211, e210_214, e210_215, e210_216, e210_218, e210_221, e210_225, e210_226, e210_228, e210_230, e210_233, e210_236, e210_239, e210_240, e210_241, e210_244, e210_245, e210_246, e210_249, e210_250, e210_251, e210_254, e210_255, m210, ↓reduceIte, qg_0, qg_1, qg_2, qg_3, qg_4, qg_5, qg_6, qg_7, qg_8, qg_9, qg_10, qg_11, qg_12, qg_13, not_true_eq_false, not_false_eq_true, Nat.reduceBEq, Bool.false_eq_true, ex1, ex3, ex4, exF, qfit_i, qfit_l, qfit_r, qfit_n, qfit_b0, qfit_b1, qcat_i, qcat_r, qcat_n, qcat_l, qroom_0, qroom_c, List.map_cons, List.map_nil, List.sum_cons, List.sum_nil, Nat.reduceAdd, Nat.reduceMul, Nat.reduceLT, Nat.reduceLeDiff, Nat.reduceEqDiff, Nat.reduceSub, decide_true, true_and, and_true, and_self, if_true, if_false, Option.toList_some, Option.toList_none, List.cons_append, List.nil_append, qsL, qlong, List.length_cons, List.length_nil, iN_L, gM_9, hn, iN_le, show ¬ n ≤ p by omega, gM_12, rM_64, hS.1, iN_bit, hb, iN_eq, Nat.zero_ne_one, iN_or, exI, iN_add, false_and]
  · try dsimp only
    rw [e210_165]
    simp (disch := first | assumption | omega) only [e210_0, e210_1, e210_4, e210_5, e210_6, e210_7, e210_8, e210_10, e210_12, e210_13, e210_16, e210_19, e210_20, e210_23, e210_25, e210_26, e210_27, e210_28, e210_30, e210_33, e210_36, e210_37, e210_40, e210_42, e210_43, e210_44, e210_45, e210_47, e210_49, e210_50, e210_53, e210_54, e210_57, e210_59, e210_60, e210_61, e210_62, e210_63, e210_64, e210_65, e210_67, e210_68, e210_69, e210_72, e210_73, e210_75, e210_76, e210_78, e210_79, e210_80, e210_81, e210_84, e210_87, e210_90, e210_93, e210_96, e210_97, e210_100, e210_101, e210_102, e210_105, e210_106, e210_107, e210_110, e210_111, e210_112, e210_113, e210_114, e210_117, e210_118, e210_119, e210_120, e210_121, e210_123, e210_125, e210_126, e210_129, e210_130, e210_133, e210_134, e210_135, e210_136, e210_138, e210_139, e210_140, e210_141, e210_144, e210_147, e210_148, e210_152, e210_153, e210_156, e210_159, e210_160, e210_162, e210_163, e210_167, e210_168, e210_171, e210_174, e210_176, e210_177, e210_180, e210_182, e210_183, e210_185, e210_186, e210_187, e210_188, e210_189, e210_192, e210_193, e210_196, e210_198, e210_199, e210_202, e210_203, e210_204, e210_207, e210_209, e210_210, e210_211, e210_214, e210_215, e210_216, e210_218, e210_221, e210_225, e210_226, e210_228, e210_230, e210_233, e210_236, e210_239, e210_240, e210_241, e210_244, e210_245, e210_246, e210_249, e210_250, e210_251, e210_254, e210_255, m210, ↓reduceIte, qg_0, qg_1, qg_2, qg_3, qg_4, qg_5, qg_6, qg_7, qg_8, qg_9, qg_10, qg_11, qg_12, qg_13, not_true_eq_false, not_false_eq_true, Nat.reduceBEq, Bool.false_eq_true, ex1, ex3, ex4, exF, qfit_i, qfit_l, qfit_r, qfit_n, qfit_b0, qfit_b1, qcat_i, qcat_r, qcat_n, qcat_l, qroom_0, qroom_c, List.map_cons, List.map_nil, List.sum_cons, List.sum_nil, Nat.reduceAdd, Nat.reduceMul, Nat.reduceLT, Nat.reduceLeDiff, Nat.reduceEqDiff, Nat.reduceSub, decide_true, true_and, and_true, and_self, if_true, if_false, Option.toList_some, Option.toList_none, List.cons_append, List.nil_append, qsL, qlong, List.length_cons, List.length_nil, iN_L, gM_9, hn, iN_le, Nat.le_refl]
set_option maxRecDepth 100000 in
set_option maxHeartbeats 16000000 in
theorem mk_fstep {x1 x3 : Int32} (hn : mi h 9 = iN n) (h16 : n ≤ 16) (hi' : i < 24) (hd : mi h 8 = iN D) (hD : 2 ≤ D ∧ D ≤ 4) (fd : FdP h f S Q) (hf : f ≤ 104) (pl : ∀ p, p < n → hi h 68 p = if cor S n f p = true then iN (rk S n f p) else -iN 1) (hne : ∀ a b, a < b → b < f → sqz S n f a n ≠ sqz S n f b n) : ∀ (k : Nat) (L : qL) (h1 : qH), k < f → mkFP h i n f D S Q x1 x3 k L h1 → ∃ L' h2, mkFP h i n f D S Q x1 x3 (k + 1) L' h2 ∧ ∀ R, qEv (d + 4) 0 qk_210 150 L [] h1 R ↔ qEv (d + 4) 0 qk_210 150 L' [] h2 R := by
  intro k L h1 hk hP
  obtain ⟨T, O, x5, x6, rfl, q5, ch, fm, st, row, sur, o60, o61, o62⟩ := hP
  have s1 := ch.sh
  have n1 : mi h1 9 = iN n := (ch.mi (by decide)).trans hn
  have d1 : mi h1 8 = iN D := (ch.mi (by decide)).trans hd
  have fd1 : FdP h1 f S Q := fd.ch ch (by decide) (by decide) (by decide)
  have pl1 : ∀ p, p < n → hi h1 68 p = if cor S n f p = true then iN (rk S n f p) else -iN 1 := by rw [ch.hi (by decide) (by decide)]; exact pl
  have hx : sqz S n f k n < 65536 := sqz_lt n h16
  obtain ⟨x, ex⟩ : ∃ x, x = sqz S n f k n := ⟨_, rfl⟩
  have r1 := fun R => mk_set (d := d) (i := i) (x1 := x1) (x3 := x3) (x5 := x5) (x6 := x6) s1 n1 h16 fd1 hf hk pl1 R
  rw [← ex] at hx r1
  obtain ⟨h2, r2, ch2, e60, e61, e62⟩ := s_putFacet (d := d + 3) s1 hi' d1 (by omega) fm (by omega) (fun j hj => (row j hj).1) hx (show k < 2000 by omega)
  have hj := posI_le T x k
  have hTx : ∀ j, j < k → T j ≠ x := by
    intro j hj
    obtain ⟨-, e, l, -⟩ := row j hj
    rw [e, ex]; exact hne _ _ l hk
  refine ⟨[some (.ref 55), some (.int x1), some (.int (iN i)), some (.int x3), some (.int (iN (k + 1))), some (.int (iN x)), some (.int (iN n))], h2, ⟨insN T x k, insP O (posI T x k) k, _, _, rfl, rfl, ch.trans ch2, ?_, insN_srt st hTx, ?_, ?_, ?_, ?_, ?_⟩, fun R => ?_⟩
  · rw [e60, upd_at, if_pos rfl]
  · intro j hj'
    refine ⟨⟨?_, insN_lt (fun q hq => (row q hq).1.2) hx hj'⟩, ?_, ?_, ?_⟩
    · rw [e61]; exact insI_row (fun q hq => (row q hq).1.1) hj'
    · rw [insN_P]
      unfold insP
      by_cases g1 : j < posI T x k
      · rw [if_pos g1, if_pos g1]; exact (row j (by omega)).2.1
      · rw [if_neg g1, if_neg g1]
        by_cases g2 : j = posI T x k
        · rw [if_pos g2, if_pos g2]; exact ex
        · rw [if_neg g2, if_neg g2]; exact (row (j - 1) (by omega)).2.1
    · unfold insP
      by_cases g1 : j < posI T x k
      · rw [if_pos g1]; have := (row j (by omega)).2.2.1; omega
      · rw [if_neg g1]
        by_cases g2 : j = posI T x k
        · rw [if_pos g2]; omega
        · rw [if_neg g2]; have := (row (j - 1) (by omega)).2.2.1; omega
    · intro t ht
      rw [e62, insL_row hj hj' ht]
      unfold insP
      by_cases g1 : j < posI T x k
      · rw [if_pos g1, if_pos g1]; exact (row j (by omega)).2.2.2 t ht
      · rw [if_neg g1, if_neg g1]
        by_cases g2 : j = posI T x k
        · rw [if_pos g2, if_pos g2]; exact (fd1.2 k hk).2 t ht
        · rw [if_neg g2, if_neg g2]; exact (row (j - 1) (by omega)).2.2.2 t ht
  · intro a ha
    by_cases e : a = k
    · exact ⟨posI T x k, by omega, by unfold insP; rw [if_neg (by omega), if_pos rfl, e]⟩
    · obtain ⟨j, h3, h4⟩ := sur a (by omega)
      by_cases g1 : j < posI T x k
      · exact ⟨j, by omega, by unfold insP; rw [if_pos g1]; exact h4⟩
      · exact ⟨j + 1, by omega, by unfold insP; rw [if_neg (by omega), if_neg (by omega)]; exact h4⟩
  · intro y hy
    rw [e60, upd_at, if_neg hy]; exact o60 y hy
  · intro y hy
    rw [e61, insI_out (by omega)]; exact o61 y hy
  · intro y hy
    rw [e62, insL_out hj (by omega)]; exact o62 y hy
  · rw [r1 R]
    have r2' : ∀ R, qMC (d + 4) 211 [.ref 55, .int (iN i), .int (iN x), .int (iN k)] h1 R ↔ R = (none, h2) := r2
    simp (disch := first | assumption | omega) only [e210_0, e210_1, e210_4, e210_5, e210_6, e210_7, e210_8, e210_10, e210_12, e210_13, e210_16, e210_19, e210_20, e210_23, e210_25, e210_26, e210_27, e210_28, e210_30, e210_33, e210_36, e210_37, e210_40, e210_42, e210_43, e210_44, e210_45, e210_47, e210_49, e210_50, e210_53, e210_54, e210_57, e210_59, e210_60, e210_61, e210_62, e210_63, e210_64, e210_65, e210_67, e210_68, e210_69, e210_72, e210_73, e210_75, e210_76, e210_78, e210_79, e210_80, e210_81, e210_84, e210_87, e210_90, e210_93, e210_96, e210_97, e210_100, e210_101, e210_102, e210_105, e210_106, e210_107, e210_110, e210_111, e210_112, e210_113, e210_114, e210_117, e210_118, e210_119, e210_120, e210_121, e210_123, e210_125, e210_126, e210_129, e210_130, e210_133, e210_134, e210_135, e210_136, e210_138, e210_139, e210_140, e210_141, e210_144, e210_147, e210_148, e210_152, e210_153, e210_156, e210_159, e210_160, e210_162, e210_163, e210_165, e210_167, e210_168, e210_171, e210_174, e210_176, e210_177, e210_180, e210_182, e210_183, e210_185, e210_186, e210_187, e210_188, e210_189, e210_192, e210_193, e210_196, e210_198, e210_199, e210_202, e210_203, e210_204, e210_207, e210_209, e210_210, e210_211, e210_214, e210_215, e210_216, e210_218, e210_221, e210_224, e210_225, e210_226, e210_228, e210_230, e210_233, e210_236, e210_239, e210_240, e210_241, e210_244, e210_245, e210_246, e210_249, e210_250, e210_251, e210_254, e210_255, m210, ↓reduceIte, qg_0, qg_1, qg_2, qg_3, qg_4, qg_5, qg_6, qg_7, qg_8, qg_9, qg_10, qg_11, qg_12, qg_13, not_true_eq_false, not_false_eq_true, Nat.reduceBEq, Bool.false_eq_true, ex1, ex3, ex4, exF, qfit_i, qfit_l, qfit_r, qfit_n, qfit_b0, qfit_b1, qcat_i, qcat_r, qcat_n, qcat_l, qroom_0, qroom_c, List.map_cons, List.map_nil, List.sum_cons, List.sum_nil, Nat.reduceAdd, Nat.reduceMul, Nat.reduceLT, Nat.reduceLeDiff, Nat.reduceEqDiff, Nat.reduceSub, decide_true, true_and, and_true, and_self, if_true, if_false, Option.toList_some, Option.toList_none, List.cons_append, List.nil_append, qsL, qlong, List.length_cons, List.length_nil, iN_L, vM1, vM2, r2', exI, iN_add]
end MAKEF

/-! ===== THE REFERENCE: putFacet ===== -/
/-- where x goes among the first j -/
def posI (T : Nat → Nat) (x : Nat) : Nat → Nat
  | 0 => 0
  | j + 1 => if T j ≤ x then j + 1 else posI T x j
theorem posI_le (T : Nat → Nat) (x : Nat) : ∀ j, posI T x j ≤ j
  | 0 => Nat.le_refl _
  | j + 1 => by
    rw [posI]
    split
    · exact Nat.le_refl _
    · exact Nat.le_trans (posI_le T x j) (by omega)
/-- rows with the places from j on moved up -/
def shI (g : Nat → Int32) (B m j : Nat) : Nat → Int32 := fun k => if B + j < k ∧ k ≤ B + m then g (k - 1) else g k
def shL (g : Nat → Int64) (C m j t : Nat) : Nat → Int64 := fun k => if (C + 5 * j + 5 ≤ k ∧ k < C + 5 * m + 5) ∨ (C + 5 * j ≤ k ∧ k < C + 5 * j + t) then g (k - 5) else g k
theorem shI_0 (g : Nat → Int32) (B m : Nat) : shI g B m m = g := by
  funext k; unfold shI; rw [if_neg (by omega)]
theorem shL_0 (g : Nat → Int64) (C m : Nat) : shL g C m m 0 = g := by
  funext k; unfold shL; rw [if_neg (by omega)]
theorem shI_step (g : Nat → Int32) {B m j : Nat} (hj : j < m) : upd (shI g B m (j + 1)) (B + (j + 1)) (shI g B m (j + 1) (B + (j + 1) - 1)) = shI g B m j := by
  funext k
  rw [upd_at]
  unfold shI
  by_cases h1 : k = B + (j + 1)
  · subst h1
    rw [if_pos rfl, if_neg (by omega), if_pos (by omega)]
  · rw [if_neg h1]
    by_cases h2 : B + (j + 1) < k ∧ k ≤ B + m
    · rw [if_pos h2, if_pos (by omega)]
    · rw [if_neg h2, if_neg (by omega)]
theorem shL_step (g : Nat → Int64) {C m j t : Nat} (hj : j < m) (ht : t < 5) : vp_updL (shL g C m j t) (C + 5 * j + t) (g (C + 5 * j + t - 5)) = shL g C m j (t + 1) := by
  funext k
  rw [updL_at]
  unfold shL
  by_cases h1 : k = C + 5 * j + t
  · subst h1
    rw [if_pos rfl, if_pos (by omega)]
  · rw [if_neg h1]
    by_cases h2 : (C + 5 * j + 5 ≤ k ∧ k < C + 5 * m + 5) ∨ (C + 5 * j ≤ k ∧ k < C + 5 * j + t)
    · rw [if_pos h2, if_pos (by omega)]
    · rw [if_neg h2, if_neg (by omega)]
theorem shL_next (g : Nat → Int64) {C m j : Nat} (hj : j < m) : shL g C m (j + 1) 5 = shL g C m j 0 := by
  funext k
  unfold shL
  by_cases h2 : (C + 5 * (j + 1) + 5 ≤ k ∧ k < C + 5 * m + 5) ∨ (C + 5 * (j + 1) ≤ k ∧ k < C + 5 * (j + 1) + 5)
  · rw [if_pos h2, if_pos (by omega)]
  · rw [if_neg h2, if_neg (by omega)]
section FACET
variable {d i D m x f : Nat} {h : qH} {T : Nat → Nat}
/-- faces and planes moved -/
def pfH (h : qH) (i D m j t : Nat) : qH := sL (sI h 61 (shI (hi h 61) (208 * (4 * i + D - 1)) m j)) 62 (shL (hl h 62) (520 * i) m j t)
theorem pfH_s (s : ShM h) (j t : Nat) : ShM (pfH h i D m j t) := by
  have s1 : ShM (sI h 61 (shI (hi h 61) (208 * (4 * i + D - 1)) m j)) := s.rowI (kM_61 s)
  exact s1.rowL (kM_62 s1)
theorem pfH_61 (s : ShM h) (j t : Nat) : hi (pfH h i D m j t) 61 = shI (hi h 61) (208 * (4 * i + D - 1)) m j := by
  have s1 : ShM (sI h 61 (shI (hi h 61) (208 * (4 * i + D - 1)) m j)) := s.rowI (kM_61 s)
  unfold pfH; rw [hi_sL (kM_62 s1), hi_sI, if_pos rfl]
theorem pfH_hi (s : ShM h) (j t : Nat) {b : Nat} (hb : b ≠ 61) : hi (pfH h i D m j t) b = hi h b := by
  have s1 : ShM (sI h 61 (shI (hi h 61) (208 * (4 * i + D - 1)) m j)) := s.rowI (kM_61 s)
  unfold pfH; rw [hi_sL (kM_62 s1), hi_sI, if_neg hb]
theorem pfH_62 (j t : Nat) : hl (pfH h i D m j t) 62 = shL (hl h 62) (520 * i) m j t := by
  unfold pfH; rw [hl_sL, if_pos rfl]
theorem pfH_hl (s : ShM h) (j t : Nat) {b : Nat} (hb : b ≠ 62) : hl (pfH h i D m j t) b = hl h b := by
  unfold pfH; rw [hl_sL, if_neg hb, hl_sI (kM_61 s)]
theorem pfH_mi (s : ShM h) (j t k : Nat) : mi (pfH h i D m j t) k = mi h k := by
  have s1 : ShM (sI h 61 (shI (hi h 61) (208 * (4 * i + D - 1)) m j)) := s.rowI (kM_61 s)
  unfold pfH; rw [mi_sL (kM_62 s1), mi_sI (kM_61 s)]
theorem sI_sL {a b n1 n2 : Nat} {f : Nat → Int32} {g : Nat → Int64} (ka : kI h a n1) (kb : kL h b n2) : sI (sL h b g) a f = sL (sI h a f) b g := by
  have hab : a ≠ b := fun e => by
    have := ka.val; rw [e, kb.val] at this; cases this
  have e1 : hlen (sL h b g) a = hlen h a := by unfold hlen; rw [at_sL, if_neg hab]
  have e2 : hlen (sI h a f) b = hlen h b := by unfold hlen; rw [at_sI, if_neg (Ne.symm hab)]
  refine Prod.ext (funext fun q => ?_) rfl
  rw [at_sI, at_sL, at_sL, at_sI, e1, e2]
  by_cases h1 : q = a
  · rw [if_pos h1, if_neg (h1 ▸ hab), if_pos h1]
  · rw [if_neg h1, if_neg h1]
theorem pfH_wI (s : ShM h) (j t : Nat) (g : Nat → Int32) : sI (pfH h i D m j t) 61 g = sL (sI h 61 g) 62 (shL (hl h 62) (520 * i) m j t) := by
  have s1 : ShM (sI h 61 (shI (hi h 61) (208 * (4 * i + D - 1)) m j)) := s.rowI (kM_61 s)
  unfold pfH
  rw [sI_sL (kM_61 s1) (kM_62 s1), sI_sI]
theorem pfH_wL (j t : Nat) (g : Nat → Int64) : sL (pfH h i D m j t) 62 g = sL (sI h 61 (shI (hi h 61) (208 * (4 * i + D - 1)) m j)) 62 g := by
  unfold pfH; rw [sL_sL]
set_option maxRecDepth 100000 in
set_option maxHeartbeats 16000000 in
theorem pf_shift {x6 : Option Value} (s : ShM h) (hi' : i < 24) (hD : 1 ≤ D ∧ D ≤ 4) (hm : m < 104) (hT : ∀ k, k < m → hi h 61 (208 * (4 * i + D - 1) + k) = iN (T k) ∧ T k < 65536) (hx : x < 65536) (R : qRes) : ∀ j, j ≤ m → ∀ x6 : Option Value, ∃ y6 : Option Value, (qEv d 4 qk_211 33 [some (.ref 55), some (.int (iN i)), some (.int (iN x)), some (.int (iN f)), some (.int (iN (208 * (4 * i + D - 1)))), some (.int (iN j)), x6] [] (pfH h i D m j 0) R ↔ qEv d 4 qk_211 135 [some (.ref 55), some (.int (iN i)), some (.int (iN x)), some (.int (iN f)), some (.int (iN (208 * (4 * i + D - 1)))), some (.int (iN (posI T x j))), y6] [] (pfH h i D m (posI T x j) 0) R)
  | 0, _, x6 => by
    refine ⟨x6, ?_⟩
    rw [e211_33]
    simp (disch := first | assumption | omega) only [e211_0, e211_3, e211_4, e211_5, e211_6, e211_7, e211_10, e211_11, e211_12, e211_13, e211_14, e211_16, e211_17, e211_20, e211_21, e211_22, e211_23, e211_24, e211_27, e211_28, e211_29, e211_30, e211_31, e211_35, e211_38, e211_39, e211_42, e211_44, e211_46, e211_47, e211_48, e211_49, e211_50, e211_51, e211_54, e211_55, e211_58, e211_60, e211_62, e211_63, e211_64, e211_67, e211_69, e211_71, e211_72, e211_73, e211_74, e211_75, e211_76, e211_77, e211_79, e211_81, e211_82, e211_85, e211_86, e211_89, e211_92, e211_93, e211_94, e211_95, e211_97, e211_98, e211_99, e211_101, e211_102, e211_103, e211_106, e211_109, e211_110, e211_111, e211_112, e211_114, e211_115, e211_116, e211_117, e211_118, e211_120, e211_121, e211_122, e211_123, e211_126, e211_129, e211_132, e211_136, e211_139, e211_141, e211_143, e211_144, e211_145, e211_146, e211_147, e211_149, e211_151, e211_152, e211_155, e211_156, e211_159, e211_162, e211_163, e211_164, e211_165, e211_167, e211_168, e211_169, e211_171, e211_172, e211_173, e211_176, e211_177, e211_178, e211_179, e211_181, e211_182, e211_183, e211_184, e211_187, e211_190, e211_191, e211_194, e211_195, e211_196, e211_197, e211_198, e211_201, e211_202, e211_203, e211_204, e211_205, e211_206, e211_207, e211_208, e211_209, m211, ↓reduceIte, qg_0, qg_1, qg_2, qg_3, qg_4, qg_5, qg_6, qg_7, qg_8, qg_9, qg_10, qg_11, qg_12, qg_13, not_true_eq_false, not_false_eq_true, Nat.reduceBEq, Bool.false_eq_true, ex1, ex3, ex4, exF, qfit_i, qfit_l, qfit_r, qfit_n, qfit_b0, qfit_b1, qcat_i, qcat_r, qcat_n, qcat_l, qroom_0, qroom_c, List.map_cons, List.map_nil, List.sum_cons, List.sum_nil, Nat.reduceAdd, Nat.reduceMul, Nat.reduceLT, Nat.reduceLeDiff, Nat.reduceEqDiff, Nat.reduceSub, decide_true, true_and, and_true, and_self, if_true, if_false, Option.toList_some, Option.toList_none, List.cons_append, List.nil_append, qsL, qlong, List.length_cons, List.length_nil, iN_L, iN_le, Nat.le_refl, posI]
  | j + 1, hj, x6 => by
    have hTj := hT j (by omega)
    have hB : 208 * (4 * i + D - 1) + (j + 1) < 19968 := by omega
    have eold : shI (hi h 61) (208 * (4 * i + D - 1)) m (j + 1) (208 * (4 * i + D - 1) + (j + 1) - 1) = iN (T j) := by
      unfold shI
      rw [if_neg (by omega), show 208 * (4 * i + D - 1) + (j + 1) - 1 = 208 * (4 * i + D - 1) + j by omega]; exact hTj.1
    have hs := pfH_s (i := i) (D := D) (m := m) s
    by_cases hc : T j ≤ x
    · refine ⟨x6, ?_⟩
      rw [e211_33]
      simp (disch := first | assumption | omega | exact hs _ _) only [e211_0, e211_3, e211_4, e211_5, e211_6, e211_7, e211_10, e211_11, e211_12, e211_13, e211_14, e211_16, e211_17, e211_20, e211_21, e211_22, e211_23, e211_24, e211_27, e211_28, e211_29, e211_30, e211_31, e211_35, e211_38, e211_39, e211_42, e211_44, e211_46, e211_47, e211_48, e211_49, e211_50, e211_51, e211_54, e211_55, e211_58, e211_60, e211_62, e211_63, e211_64, e211_67, e211_69, e211_71, e211_72, e211_73, e211_74, e211_75, e211_76, e211_77, e211_79, e211_81, e211_82, e211_85, e211_86, e211_89, e211_92, e211_93, e211_94, e211_95, e211_97, e211_98, e211_99, e211_101, e211_102, e211_103, e211_106, e211_109, e211_110, e211_111, e211_112, e211_114, e211_115, e211_116, e211_117, e211_118, e211_120, e211_121, e211_122, e211_123, e211_126, e211_129, e211_132, e211_136, e211_139, e211_141, e211_143, e211_144, e211_145, e211_146, e211_147, e211_149, e211_151, e211_152, e211_155, e211_156, e211_159, e211_162, e211_163, e211_164, e211_165, e211_167, e211_168, e211_169, e211_171, e211_172, e211_173, e211_176, e211_177, e211_178, e211_179, e211_181, e211_182, e211_183, e211_184, e211_187, e211_190, e211_191, e211_194, e211_195, e211_196, e211_197, e211_198, e211_201, e211_202, e211_203, e211_204, e211_205, e211_206, e211_207, e211_208, e211_209, m211, ↓reduceIte, qg_0, qg_1, qg_2, qg_3, qg_4, qg_5, qg_6, qg_7, qg_8, qg_9, qg_10, qg_11, qg_12, qg_13, not_true_eq_false, not_false_eq_true, Nat.reduceBEq, Bool.false_eq_true, ex1, ex3, ex4, exF, qfit_i, qfit_l, qfit_r, qfit_n, qfit_b0, qfit_b1, qcat_i, qcat_r, qcat_n, qcat_l, qroom_0, qroom_c, List.map_cons, List.map_nil, List.sum_cons, List.sum_nil, Nat.reduceAdd, Nat.reduceMul, Nat.reduceLT, Nat.reduceLeDiff, Nat.reduceEqDiff, Nat.reduceSub, decide_true, true_and, and_true, and_self, if_true, if_false, Option.toList_some, Option.toList_none, List.cons_append, List.nil_append, qsL, qlong, List.length_cons, List.length_nil, iN_L, iN_le, Nat.not_succ_le_zero, show ¬ j + 1 ≤ 0 by omega, gM_6, iN_add, iN_sub, rM_61, pfH_61 s, eold, hc, posI]
    · obtain ⟨y6, ih⟩ := pf_shift (x6 := x6) s hi' hD hm hT hx R j (by omega) (some (.int (iN 5)))
      refine ⟨y6, ?_⟩
      rw [e211_33]
      have est : upd (shI (hi h 61) (208 * (4 * i + D - 1)) m (j + 1)) (208 * (4 * i + D - 1) + (j + 1)) (iN (T j)) = shI (hi h 61) (208 * (4 * i + D - 1)) m j := by
        rw [← eold]; exact shI_step _ (by omega)
      have edec : iN (j + 1) + -iN 1 = iN j := by rw [kv_dec']; rfl
      simp (disch := first | assumption | omega | exact hs _ _) only [e211_0, e211_3, e211_4, e211_5, e211_6, e211_7, e211_10, e211_11, e211_12, e211_13, e211_14, e211_16, e211_17, e211_20, e211_21, e211_22, e211_23, e211_24, e211_27, e211_28, e211_29, e211_30, e211_31, e211_35, e211_38, e211_39, e211_42, e211_44, e211_46, e211_47, e211_48, e211_49, e211_50, e211_51, e211_54, e211_55, e211_58, e211_60, e211_62, e211_63, e211_64, e211_67, e211_69, e211_71, e211_72, e211_73, e211_74, e211_75, e211_76, e211_77, e211_81, e211_82, e211_85, e211_86, e211_89, e211_92, e211_93, e211_94, e211_95, e211_97, e211_98, e211_99, e211_101, e211_102, e211_103, e211_106, e211_109, e211_110, e211_111, e211_112, e211_114, e211_115, e211_116, e211_117, e211_118, e211_120, e211_121, e211_122, e211_123, e211_126, e211_129, e211_132, e211_136, e211_139, e211_141, e211_143, e211_144, e211_145, e211_146, e211_147, e211_149, e211_151, e211_152, e211_155, e211_156, e211_159, e211_162, e211_163, e211_164, e211_165, e211_167, e211_168, e211_169, e211_171, e211_172, e211_173, e211_176, e211_177, e211_178, e211_179, e211_181, e211_182, e211_183, e211_184, e211_187, e211_190, e211_191, e211_194, e211_195, e211_196, e211_197, e211_198, e211_201, e211_202, e211_203, e211_204, e211_205, e211_206, e211_207, e211_208, e211_209, m211, ↓reduceIte, qg_0, qg_1, qg_2, qg_3, qg_4, qg_5, qg_6, qg_7, qg_8, qg_9, qg_10, qg_11, qg_12, qg_13, not_true_eq_false, not_false_eq_true, Nat.reduceBEq, Bool.false_eq_true, ex1, ex3, ex4, exF, qfit_i, qfit_l, qfit_r, qfit_n, qfit_b0, qfit_b1, qcat_i, qcat_r, qcat_n, qcat_l, qroom_0, qroom_c, List.map_cons, List.map_nil, List.sum_cons, List.sum_nil, Nat.reduceAdd, Nat.reduceMul, Nat.reduceLT, Nat.reduceLeDiff, Nat.reduceEqDiff, Nat.reduceSub, decide_true, true_and, and_true, and_self, if_true, if_false, Option.toList_some, Option.toList_none, List.cons_append, List.nil_append, qsL, qlong, List.length_cons, List.length_nil, iN_L, iN_le, show ¬ j + 1 ≤ 0 by omega, gM_6, iN_add, iN_sub, rM_61, pfH_61 s, eold, hc, posI, wM_61, est, pfH_wI s]
      refine Iff.trans ?_ ih
      have s1 : ShM (sI h 61 (shI (hi h 61) (208 * (4 * i + D - 1)) m j)) := s.rowI (kM_61 s)
      have s2 : ∀ G, ShM (sL (sI h 61 (shI (hi h 61) (208 * (4 * i + D - 1)) m j)) 62 G) := fun G => s1.rowL (kM_62 s1)
      refine Iff.trans (loop_up (n := 5) (L := fun t => [some (.ref 55), some (.int (iN i)), some (.int (iN x)), some (.int (iN f)), some (.int (iN (208 * (4 * i + D - 1)))), some (.int (iN (j + 1))), some (.int (iN t))]) (H := fun t => sL (sI h 61 (shI (hi h 61) (208 * (4 * i + D - 1)) m j)) 62 (shL (hl h 62) (520 * i) m (j + 1) t)) ?_) ?_
      · intro t ht
        try dsimp only
        rw [e211_79]
        have erd : shL (hl h 62) (520 * i) m (j + 1) t (520 * i + 5 * j + t) = hl h 62 (520 * i + 5 * (j + 1) + t - 5) := by
          unfold shL
          rw [if_neg (by omega), show 520 * i + 5 * (j + 1) + t - 5 = 520 * i + 5 * j + t by omega]
        by_cases hjm : j + 1 < m
        · simp (disch := first | assumption | omega | exact s2 _) only [e211_0, e211_3, e211_4, e211_5, e211_6, e211_7, e211_10, e211_11, e211_12, e211_13, e211_14, e211_16, e211_17, e211_20, e211_21, e211_22, e211_23, e211_24, e211_27, e211_28, e211_29, e211_30, e211_31, e211_35, e211_38, e211_39, e211_42, e211_44, e211_46, e211_47, e211_48, e211_49, e211_50, e211_51, e211_54, e211_55, e211_58, e211_60, e211_62, e211_63, e211_64, e211_67, e211_69, e211_71, e211_72, e211_73, e211_74, e211_75, e211_76, e211_77, e211_81, e211_82, e211_85, e211_86, e211_89, e211_92, e211_93, e211_94, e211_95, e211_97, e211_98, e211_99, e211_101, e211_102, e211_103, e211_106, e211_109, e211_110, e211_111, e211_112, e211_114, e211_115, e211_116, e211_117, e211_118, e211_120, e211_121, e211_122, e211_123, e211_126, e211_129, e211_132, e211_136, e211_139, e211_141, e211_143, e211_144, e211_145, e211_146, e211_147, e211_149, e211_151, e211_152, e211_155, e211_156, e211_159, e211_162, e211_163, e211_164, e211_165, e211_167, e211_168, e211_169, e211_171, e211_172, e211_173, e211_176, e211_177, e211_178, e211_179, e211_181, e211_182, e211_183, e211_184, e211_187, e211_190, e211_191, e211_194, e211_195, e211_196, e211_197, e211_198, e211_201, e211_202, e211_203, e211_204, e211_205, e211_206, e211_207, e211_208, e211_209, m211, ↓reduceIte, qg_0, qg_1, qg_2, qg_3, qg_4, qg_5, qg_6, qg_7, qg_8, qg_9, qg_10, qg_11, qg_12, qg_13, not_true_eq_false, not_false_eq_true, Nat.reduceBEq, Bool.false_eq_true, ex1, ex3, ex4, exF, qfit_i, qfit_l, qfit_r, qfit_n, qfit_b0, qfit_b1, qcat_i, qcat_r, qcat_n, qcat_l, qroom_0, qroom_c, List.map_cons, List.map_nil, List.sum_cons, List.sum_nil, Nat.reduceAdd, Nat.reduceMul, Nat.reduceLT, Nat.reduceLeDiff, Nat.reduceEqDiff, Nat.reduceSub, decide_true, true_and, and_true, and_self, if_true, if_false, Option.toList_some, Option.toList_none, List.cons_append, List.nil_append, qsL, qlong, List.length_cons, List.length_nil, iN_L, iN_le, show ¬ 5 ≤ t by omega, gM_7, iN_mul, iN_add, iN_sub, Nat.add_sub_cancel, rM_62, hl_sL, erd, wM_62, sL_sL, shL_step _ hjm ht, exI]
        · have hjm' : m = j + 1 := by omega
          have est2 : vp_updL (shL (hl h 62) (520 * i) m (j + 1) t) (520 * i + 5 * (j + 1) + t) (hl h 62 (520 * i + 5 * (j + 1) + t - 5)) = shL (hl h 62) (520 * i) m (j + 1) (t + 1) := by
            funext k
            rw [updL_at]
            unfold shL
            by_cases h1 : k = 520 * i + 5 * (j + 1) + t
            · subst h1; rw [if_pos rfl, if_pos (by omega)]
            · rw [if_neg h1]
              by_cases h2 : (520 * i + 5 * (j + 1) + 5 ≤ k ∧ k < 520 * i + 5 * m + 5) ∨ (520 * i + 5 * (j + 1) ≤ k ∧ k < 520 * i + 5 * (j + 1) + t)
              · rw [if_pos h2, if_pos (by omega)]
              · rw [if_neg h2, if_neg (by omega)]
          simp (disch := first | assumption | omega | exact s2 _) only [e211_0, e211_3, e211_4, e211_5, e211_6, e211_7, e211_10, e211_11, e211_12, e211_13, e211_14, e211_16, e211_17, e211_20, e211_21, e211_22, e211_23, e211_24, e211_27, e211_28, e211_29, e211_30, e211_31, e211_35, e211_38, e211_39, e211_42, e211_44, e211_46, e211_47, e211_48, e211_49, e211_50, e211_51, e211_54, e211_55, e211_58, e211_60, e211_62, e211_63, e211_64, e211_67, e211_69, e211_71, e211_72, e211_73, e211_74, e211_75, e211_76, e211_77, e211_81, e211_82, e211_85, e211_86, e211_89, e211_92, e211_93, e211_94, e211_95, e211_97, e211_98, e211_99, e211_101, e211_102, e211_103, e211_106, e211_109, e211_110, e211_111, e211_112, e211_114, e211_115, e211_116, e211_117, e211_118, e211_120, e211_121, e211_122, e211_123, e211_126, e211_129, e211_132, e211_136, e211_139, e211_141, e211_143, e211_144, e211_145, e211_146, e211_147, e211_149, e211_151, e211_152, e211_155, e211_156, e211_159, e211_162, e211_163, e211_164, e211_165, e211_167, e211_168, e211_169, e211_171, e211_172, e211_173, e211_176, e211_177, e211_178, e211_179, e211_181, e211_182, e211_183, e211_184, e211_187, e211_190, e211_191, e211_194, e211_195, e211_196, e211_197, e211_198, e211_201, e211_202, e211_203, e211_204, e211_205, e211_206, e211_207, e211_208, e211_209, m211, ↓reduceIte, qg_0, qg_1, qg_2, qg_3, qg_4, qg_5, qg_6, qg_7, qg_8, qg_9, qg_10, qg_11, qg_12, qg_13, not_true_eq_false, not_false_eq_true, Nat.reduceBEq, Bool.false_eq_true, ex1, ex3, ex4, exF, qfit_i, qfit_l, qfit_r, qfit_n, qfit_b0, qfit_b1, qcat_i, qcat_r, qcat_n, qcat_l, qroom_0, qroom_c, List.map_cons, List.map_nil, List.sum_cons, List.sum_nil, Nat.reduceAdd, Nat.reduceMul, Nat.reduceLT, Nat.reduceLeDiff, Nat.reduceEqDiff, Nat.reduceSub, decide_true, true_and, and_true, and_self, if_true, if_false, Option.toList_some, Option.toList_none, List.cons_append, List.nil_append, qsL, qlong, List.length_cons, List.length_nil, iN_L, iN_le, show ¬ 5 ≤ t by omega, gM_7, iN_mul, iN_add, iN_sub, Nat.add_sub_cancel, rM_62, hl_sL, erd, wM_62, sL_sL, est2, exI]
      · try dsimp only
        rw [e211_79]
        simp (disch := first | assumption | omega | exact s2 _) only [e211_0, e211_3, e211_4, e211_5, e211_6, e211_7, e211_10, e211_11, e211_12, e211_13, e211_14, e211_16, e211_17, e211_20, e211_21, e211_22, e211_23, e211_24, e211_27, e211_28, e211_29, e211_30, e211_31, e211_35, e211_38, e211_39, e211_42, e211_44, e211_46, e211_47, e211_48, e211_49, e211_50, e211_51, e211_54, e211_55, e211_58, e211_60, e211_62, e211_63, e211_64, e211_67, e211_69, e211_71, e211_72, e211_73, e211_74, e211_75, e211_76, e211_77, e211_81, e211_82, e211_85, e211_86, e211_89, e211_92, e211_93, e211_94, e211_95, e211_97, e211_98, e211_99, e211_101, e211_102, e211_103, e211_106, e211_109, e211_110, e211_111, e211_112, e211_114, e211_115, e211_116, e211_117, e211_118, e211_120, e211_121, e211_122, e211_123, e211_126, e211_129, e211_132, e211_136, e211_139, e211_141, e211_143, e211_144, e211_145, e211_146, e211_147, e211_149, e211_151, e211_152, e211_155, e211_156, e211_159, e211_162, e211_163, e211_164, e211_165, e211_167, e211_168, e211_169, e211_171, e211_172, e211_173, e211_176, e211_177, e211_178, e211_179, e211_181, e211_182, e211_183, e211_184, e211_187, e211_190, e211_191, e211_194, e211_195, e211_196, e211_197, e211_198, e211_201, e211_202, e211_203, e211_204, e211_205, e211_206, e211_207, e211_208, e211_209, m211, ↓reduceIte, qg_0, qg_1, qg_2, qg_3, qg_4, qg_5, qg_6, qg_7, qg_8, qg_9, qg_10, qg_11, qg_12, qg_13, not_true_eq_false, not_false_eq_true, Nat.reduceBEq, Bool.false_eq_true, ex1, ex3, ex4, exF, qfit_i, qfit_l, qfit_r, qfit_n, qfit_b0, qfit_b1, qcat_i, qcat_r, qcat_n, qcat_l, qroom_0, qroom_c, List.map_cons, List.map_nil, List.sum_cons, List.sum_nil, Nat.reduceAdd, Nat.reduceMul, Nat.reduceLT, Nat.reduceLeDiff, Nat.reduceEqDiff, Nat.reduceSub, decide_true, true_and, and_true, and_self, if_true, if_false, Option.toList_some, Option.toList_none, List.cons_append, List.nil_append, qsL, qlong, List.length_cons, List.length_nil, iN_L, iN_le, Nat.le_refl, exI, edec, shL_next _ (show j < m by omega)]
        exact Iff.rfl
end FACET

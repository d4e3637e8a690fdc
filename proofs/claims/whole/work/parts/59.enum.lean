/-! ===== THE REFERENCE: findPlanes, all choices in their order ===== -/
def cf (c0 c1 c2 c3 : Nat) : Nat → Nat
  | 0 => c0
  | 1 => c1
  | 2 => c2
  | _ => c3
/-- one more than the last place that can go on -/
def topK (n D : Nat) (c : Nat → Nat) : Nat → Nat
  | 0 => 0
  | j + 1 => if c j = n - D + j then topK n D c j else j + 1
/-- choices by their order -/
def Vc (c0 c1 c2 c3 : Nat) : Nat := c0 * 4913 + c1 * 289 + c2 * 17 + c3
/-- the next choice -/
def nxC (D K : Nat) (c : Nat → Nat) (k : Nat) : Nat := if D ≤ k then 0 else if k < K then c k else c K + 1 + (k - K)
theorem topK_le (n D : Nat) (c : Nat → Nat) : ∀ j, topK n D c j ≤ j
  | 0 => Nat.le_refl _
  | j + 1 => by
    rw [topK]
    split
    · exact Nat.le_trans (topK_le n D c j) (by omega)
    · exact Nat.le_refl _
theorem nx_end {n D c0 c1 c2 c3 : Nat} (h16 : n ≤ 16) (hD : D < n) (i : inc n D c0 c1 c2 c3) (ht : topK n D (cf c0 c1 c2 c3) D = 0) {e0 e1 e2 e3 : Nat} (j : inc n D e0 e1 e2 e3) : Vc e0 e1 e2 e3 ≤ Vc c0 c1 c2 c3 := by
  obtain ⟨hD2, i1, i2⟩ := i
  obtain ⟨-, j1, j2⟩ := j
  unfold Vc
  have h3 : D = 2 ∨ D = 3 ∨ D = 4 := by omega
  rcases h3 with rfl | rfl | rfl
  · simp only [topK, cf, if_true, if_false, Nat.reduceEqDiff] at *
    split at ht <;> (try split at ht) <;> omega
  · simp only [topK, cf, if_true, if_false, Nat.reduceEqDiff] at *
    split at ht <;> (try split at ht) <;> (try split at ht) <;> omega
  · simp only [topK, cf, if_true, if_false, Nat.reduceEqDiff] at *
    split at ht <;> (try split at ht) <;> (try split at ht) <;> (try split at ht) <;> omega
theorem nx_next {n D K c0 c1 c2 c3 : Nat} (h16 : n ≤ 16) (hD : D < n) (i : inc n D c0 c1 c2 c3) (ht : topK n D (cf c0 c1 c2 c3) D = K + 1) : inc n D (nxC D K (cf c0 c1 c2 c3) 0) (nxC D K (cf c0 c1 c2 c3) 1) (nxC D K (cf c0 c1 c2 c3) 2) (nxC D K (cf c0 c1 c2 c3) 3) ∧
    Vc c0 c1 c2 c3 < Vc (nxC D K (cf c0 c1 c2 c3) 0) (nxC D K (cf c0 c1 c2 c3) 1) (nxC D K (cf c0 c1 c2 c3) 2) (nxC D K (cf c0 c1 c2 c3) 3) ∧
    ∀ e0 e1 e2 e3, inc n D e0 e1 e2 e3 → Vc e0 e1 e2 e3 < Vc (nxC D K (cf c0 c1 c2 c3) 0) (nxC D K (cf c0 c1 c2 c3) 1) (nxC D K (cf c0 c1 c2 c3) 2) (nxC D K (cf c0 c1 c2 c3) 3) → Vc e0 e1 e2 e3 ≤ Vc c0 c1 c2 c3 := by
  obtain ⟨hD2, i1, i2⟩ := i
  have hK := topK_le n D (cf c0 c1 c2 c3) D
  rw [ht] at hK
  have h3 : (D = 2 ∧ (K = 0 ∨ K = 1)) ∨ (D = 3 ∧ (K = 0 ∨ K = 1 ∨ K = 2)) ∨ (D = 4 ∧ (K = 0 ∨ K = 1 ∨ K = 2 ∨ K = 3)) := by omega
  rcases h3 with ⟨rfl, rfl | rfl⟩ | ⟨rfl, rfl | rfl | rfl⟩ | ⟨rfl, rfl | rfl | rfl | rfl⟩
  all_goals
    simp only [topK, cf, nxC, inc, Vc, if_true, if_false, Nat.reduceEqDiff, Nat.reduceLeDiff, Nat.reduceLT, Nat.reduceSub, Nat.lt_irrefl, Nat.not_lt_zero, Nat.sub_self, Nat.sub_zero, true_and, and_true, and_self] at *
    repeat' split at ht
    all_goals first
      | (exfalso; omega)
      | (refine ⟨by omega, by omega, ?_⟩
         intro e0 e1 e2 e3 jj hv
         rcases Nat.lt_trichotomy e0 c0 with q0 | q0 | q0 <;> rcases Nat.lt_trichotomy e1 c1 with q1 | q1 | q1 <;> rcases Nat.lt_trichotomy e2 c2 with q2 | q2 | q2 <;> omega)
def kv : Nat → Int32
  | 0 => -1
  | j + 1 => iN j
theorem kv_dec (j : Nat) : iN j + -1 = kv j := by
  cases j with
  | zero => rfl
  | succ j =>
    show iN (j + 1) + -1 = iN j
    rw [← iN_addL j 1, Int32.add_assoc]
    exact Int32.add_zero _
theorem kv_dec' (j : Nat) : iN j + -iN 1 = kv j := kv_dec j
section ENUM
variable {d n D : Nat} {c : Nat → Nat} {P : Nat → Nat → Int} {h : qH}
set_option maxRecDepth 100000 in
set_option maxHeartbeats 16000000 in
theorem fp_K {y1 : Int32} {x3 : Option Value} (s : ShM h) (hd : mi h 8 = iN D) (hn : mi h 9 = iN n) (h16 : n ≤ 16) (hD : D < n) (hD4 : D ≤ 4) (hc : ∀ k, k < D → hi h 67 k = iN (c k) ∧ c k < n) (R : qRes) : ∀ j, j ≤ D → (qEv (d + 4) 3 qk_208 108 [some (.ref 55), some (.int y1), some (.int (kv j)), x3] [] h R ↔ qEv (d + 4) 3 qk_208 138 [some (.ref 55), some (.int y1), some (.int (kv (topK n D c j))), x3] [] h R)
  | 0, _ => by
    rw [e208_108]
    simp (disch := first | assumption | omega) only [e208_0, e208_1, e208_2, e208_5, e208_6, e208_7, e208_8, e208_9, e208_12, e208_15, e208_16, e208_19, e208_20, e208_21, e208_22, e208_25, e208_28, e208_29, e208_32, e208_33, e208_36, e208_39, e208_40, e208_43, e208_44, e208_45, e208_46, e208_49, e208_50, e208_53, e208_54, e208_57, e208_58, e208_59, e208_60, e208_61, e208_64, e208_65, e208_68, e208_69, e208_70, e208_71, e208_72, e208_75, e208_76, e208_79, e208_80, e208_81, e208_82, e208_83, e208_86, e208_87, e208_90, e208_91, e208_92, e208_93, e208_94, e208_97, e208_98, e208_101, e208_102, e208_105, e208_106, e208_107, e208_109, e208_112, e208_113, e208_116, e208_117, e208_118, e208_119, e208_122, e208_123, e208_126, e208_127, e208_128, e208_129, e208_132, e208_135, e208_139, e208_142, e208_143, e208_146, e208_147, e208_148, e208_149, e208_152, e208_153, e208_156, e208_157, e208_158, e208_159, e208_160, e208_161, e208_162, e208_163, e208_164, e208_165, e208_166, e208_167, e208_168, e208_171, e208_174, e208_175, e208_178, e208_179, e208_180, e208_183, e208_184, e208_185, e208_186, e208_187, e208_188, e208_189, e208_190, e208_193, e208_196, e208_199, e208_200, e208_203, e208_206, e208_207, e208_210, e208_211, m208, ↓reduceIte, qg_0, qg_1, qg_2, qg_3, qg_4, qg_5, qg_6, qg_7, qg_8, qg_9, qg_10, qg_11, qg_12, qg_13, not_true_eq_false, not_false_eq_true, Nat.reduceBEq, Bool.false_eq_true, ex1, ex3, ex4, exF, qfit_i, qfit_l, qfit_r, qfit_n, qfit_b0, qfit_b1, qcat_i, qcat_r, qcat_n, qcat_l, qroom_0, qroom_c, List.map_cons, List.map_nil, List.sum_cons, List.sum_nil, Nat.reduceAdd, Nat.reduceMul, Nat.reduceLT, Nat.reduceLeDiff, Nat.reduceEqDiff, Nat.reduceSub, decide_true, true_and, and_true, and_self, if_true, if_false, Option.toList_some, Option.toList_none, List.cons_append, List.nil_append, qsL, qlong, List.length_cons, List.length_nil, show kv 0 < 0 from by decide, topK]
  | j + 1, hj => by
    have h1 := hc j (by omega)
    have h0 : ¬ kv (j + 1) < iN 0 := by show ¬ iN j < iN 0; rw [iN_lt (by omega) (by omega)]; omega
    rw [e208_108]
    have hk : kv (j + 1) = iN j := rfl
    by_cases he : c j = n - D + j
    · simp (disch := first | assumption | omega) only [e208_0, e208_1, e208_2, e208_5, e208_6, e208_7, e208_8, e208_9, e208_12, e208_15, e208_16, e208_19, e208_20, e208_21, e208_22, e208_25, e208_28, e208_29, e208_32, e208_33, e208_36, e208_39, e208_40, e208_43, e208_44, e208_45, e208_46, e208_49, e208_50, e208_53, e208_54, e208_57, e208_58, e208_59, e208_60, e208_61, e208_64, e208_65, e208_68, e208_69, e208_70, e208_71, e208_72, e208_75, e208_76, e208_79, e208_80, e208_81, e208_82, e208_83, e208_86, e208_87, e208_90, e208_91, e208_92, e208_93, e208_94, e208_97, e208_98, e208_101, e208_102, e208_105, e208_106, e208_107, e208_109, e208_112, e208_113, e208_116, e208_117, e208_118, e208_119, e208_122, e208_123, e208_126, e208_127, e208_128, e208_129, e208_132, e208_135, e208_139, e208_142, e208_143, e208_146, e208_147, e208_148, e208_149, e208_152, e208_153, e208_156, e208_157, e208_158, e208_159, e208_160, e208_161, e208_162, e208_163, e208_164, e208_165, e208_166, e208_167, e208_168, e208_171, e208_174, e208_175, e208_178, e208_179, e208_180, e208_183, e208_184, e208_185, e208_186, e208_187, e208_188, e208_189, e208_190, e208_193, e208_196, e208_199, e208_200, e208_203, e208_206, e208_207, e208_210, e208_211, m208, ↓reduceIte, qg_0, qg_1, qg_2, qg_3, qg_4, qg_5, qg_6, qg_7, qg_8, qg_9, qg_10, qg_11, qg_12, qg_13, not_true_eq_false, not_false_eq_true, Nat.reduceBEq, Bool.false_eq_true, ex1, ex3, ex4, exF, qfit_i, qfit_l, qfit_r, qfit_n, qfit_b0, qfit_b1, qcat_i, qcat_r, qcat_n, qcat_l, qroom_0, qroom_c, List.map_cons, List.map_nil, List.sum_cons, List.sum_nil, Nat.reduceAdd, Nat.reduceMul, Nat.reduceLT, Nat.reduceLeDiff, Nat.reduceEqDiff, Nat.reduceSub, decide_true, true_and, and_true, and_self, if_true, if_false, Option.toList_some, Option.toList_none, List.cons_append, List.nil_append, qsL, qlong, List.length_cons, List.length_nil, iN_L, h0, gM_15, gM_8, gM_9, hk, iN_lt, Nat.not_lt_zero, rM_67, h1.1, hn, hd, iN_sub, iN_add, iN_eq, he, exI, kv_dec', topK]
      exact fp_K s hd hn h16 hD hD4 hc R j (by omega)
    · simp (disch := first | assumption | omega) only [e208_0, e208_1, e208_2, e208_5, e208_6, e208_7, e208_8, e208_9, e208_12, e208_15, e208_16, e208_19, e208_20, e208_21, e208_22, e208_25, e208_28, e208_29, e208_32, e208_33, e208_36, e208_39, e208_40, e208_43, e208_44, e208_45, e208_46, e208_49, e208_50, e208_53, e208_54, e208_57, e208_58, e208_59, e208_60, e208_61, e208_64, e208_65, e208_68, e208_69, e208_70, e208_71, e208_72, e208_75, e208_76, e208_79, e208_80, e208_81, e208_82, e208_83, e208_86, e208_87, e208_90, e208_91, e208_92, e208_93, e208_94, e208_97, e208_98, e208_101, e208_102, e208_105, e208_106, e208_107, e208_109, e208_112, e208_113, e208_116, e208_117, e208_118, e208_119, e208_122, e208_123, e208_126, e208_127, e208_128, e208_129, e208_132, e208_135, e208_139, e208_142, e208_143, e208_146, e208_147, e208_148, e208_149, e208_152, e208_153, e208_156, e208_157, e208_158, e208_159, e208_160, e208_161, e208_162, e208_163, e208_164, e208_165, e208_166, e208_167, e208_168, e208_171, e208_174, e208_175, e208_178, e208_179, e208_180, e208_183, e208_184, e208_185, e208_186, e208_187, e208_188, e208_189, e208_190, e208_193, e208_196, e208_199, e208_200, e208_203, e208_206, e208_207, e208_210, e208_211, m208, ↓reduceIte, qg_0, qg_1, qg_2, qg_3, qg_4, qg_5, qg_6, qg_7, qg_8, qg_9, qg_10, qg_11, qg_12, qg_13, not_true_eq_false, not_false_eq_true, Nat.reduceBEq, Bool.false_eq_true, ex1, ex3, ex4, exF, qfit_i, qfit_l, qfit_r, qfit_n, qfit_b0, qfit_b1, qcat_i, qcat_r, qcat_n, qcat_l, qroom_0, qroom_c, List.map_cons, List.map_nil, List.sum_cons, List.sum_nil, Nat.reduceAdd, Nat.reduceMul, Nat.reduceLT, Nat.reduceLeDiff, Nat.reduceEqDiff, Nat.reduceSub, decide_true, true_and, and_true, and_self, if_true, if_false, Option.toList_some, Option.toList_none, List.cons_append, List.nil_append, qsL, qlong, List.length_cons, List.length_nil, iN_L, h0, gM_15, gM_8, gM_9, hk, iN_lt, Nat.not_lt_zero, rM_67, h1.1, hn, hd, iN_sub, iN_add, iN_eq, he, topK]
set_option maxRecDepth 100000 in
set_option maxHeartbeats 16000000 in
/-- the last choice: the loop ends -/
theorem fp_E {y1 : Int32} {x2 x3 : Option Value} (s : ShM h) (hd : mi h 8 = iN D) (hn : mi h 9 = iN n) (h16 : n ≤ 16) (hD : D < n) (hD4 : 2 ≤ D ∧ D ≤ 4) (hc : ∀ k, k < D → hi h 67 k = iN (c k) ∧ c k < n) (ht : topK n D c D = 0) (R : qRes) : qEv (d + 4) 3 qk_208 101 [some (.ref 55), some (.int y1), x2, x3] [] h R ↔ qEv (d + 4) 3 qk_208 45 [some (.ref 55), some (.int (iN 0)), some (.int (kv 0)), x3] [] h R := by
  have hk : iN (D - 1) = kv D := by
    obtain ⟨j, rfl⟩ : ∃ j, D = j + 1 := ⟨D - 1, by omega⟩
    rfl
  simp (disch := first | assumption | omega) only [e208_0, e208_1, e208_2, e208_5, e208_6, e208_7, e208_8, e208_9, e208_12, e208_15, e208_16, e208_19, e208_20, e208_21, e208_22, e208_25, e208_28, e208_29, e208_32, e208_33, e208_36, e208_39, e208_40, e208_43, e208_44, e208_46, e208_49, e208_50, e208_53, e208_54, e208_57, e208_58, e208_59, e208_60, e208_61, e208_64, e208_65, e208_68, e208_69, e208_70, e208_71, e208_72, e208_75, e208_76, e208_79, e208_80, e208_81, e208_82, e208_83, e208_86, e208_87, e208_90, e208_91, e208_92, e208_93, e208_94, e208_97, e208_98, e208_101, e208_102, e208_105, e208_106, e208_107, e208_109, e208_112, e208_113, e208_116, e208_117, e208_118, e208_119, e208_122, e208_123, e208_126, e208_127, e208_128, e208_129, e208_132, e208_135, e208_139, e208_142, e208_143, e208_146, e208_147, e208_148, e208_149, e208_152, e208_153, e208_156, e208_157, e208_158, e208_159, e208_160, e208_161, e208_162, e208_163, e208_164, e208_165, e208_166, e208_167, e208_168, e208_171, e208_174, e208_175, e208_178, e208_179, e208_180, e208_183, e208_184, e208_185, e208_186, e208_187, e208_188, e208_189, e208_190, e208_193, e208_196, e208_199, e208_200, e208_203, e208_206, e208_207, e208_210, e208_211, m208, ↓reduceIte, qg_0, qg_1, qg_2, qg_3, qg_4, qg_5, qg_6, qg_7, qg_8, qg_9, qg_10, qg_11, qg_12, qg_13, not_true_eq_false, not_false_eq_true, Nat.reduceBEq, Bool.false_eq_true, ex1, ex3, ex4, exF, qfit_i, qfit_l, qfit_r, qfit_n, qfit_b0, qfit_b1, qcat_i, qcat_r, qcat_n, qcat_l, qroom_0, qroom_c, List.map_cons, List.map_nil, List.sum_cons, List.sum_nil, Nat.reduceAdd, Nat.reduceMul, Nat.reduceLT, Nat.reduceLeDiff, Nat.reduceEqDiff, Nat.reduceSub, decide_true, true_and, and_true, and_self, if_true, if_false, Option.toList_some, Option.toList_none, List.cons_append, List.nil_append, qsL, qlong, List.length_cons, List.length_nil, gM_8, hd, iN_L, iN_sub, hk]
  rw [fp_K s hd hn h16 hD hD4.2 hc R D (Nat.le_refl _), ht]
  simp (disch := first | assumption | omega) only [e208_0, e208_1, e208_2, e208_5, e208_6, e208_7, e208_8, e208_9, e208_12, e208_15, e208_16, e208_19, e208_20, e208_21, e208_22, e208_25, e208_28, e208_29, e208_32, e208_33, e208_36, e208_39, e208_40, e208_43, e208_44, e208_46, e208_49, e208_50, e208_53, e208_54, e208_57, e208_58, e208_59, e208_60, e208_61, e208_64, e208_65, e208_68, e208_69, e208_70, e208_71, e208_72, e208_75, e208_76, e208_79, e208_80, e208_81, e208_82, e208_83, e208_86, e208_87, e208_90, e208_91, e208_92, e208_93, e208_94, e208_97, e208_98, e208_101, e208_102, e208_105, e208_106, e208_107, e208_109, e208_112, e208_113, e208_116, e208_117, e208_118, e208_119, e208_122, e208_123, e208_126, e208_127, e208_128, e208_129, e208_132, e208_135, e208_138, e208_139, e208_142, e208_143, e208_146, e208_147, e208_148, e208_149, e208_152, e208_153, e208_156, e208_157, e208_158, e208_159, e208_160, e208_161, e208_162, e208_163, e208_164, e208_165, e208_166, e208_167, e208_168, e208_171, e208_174, e208_175, e208_178, e208_179, e208_180, e208_183, e208_184, e208_185, e208_186, e208_187, e208_188, e208_189, e208_190, e208_193, e208_196, e208_199, e208_200, e208_203, e208_206, e208_207, e208_210, e208_211, m208, ↓reduceIte, qg_0, qg_1, qg_2, qg_3, qg_4, qg_5, qg_6, qg_7, qg_8, qg_9, qg_10, qg_11, qg_12, qg_13, not_true_eq_false, not_false_eq_true, Nat.reduceBEq, Bool.false_eq_true, ex1, ex3, ex4, exF, qfit_i, qfit_l, qfit_r, qfit_n, qfit_b0, qfit_b1, qcat_i, qcat_r, qcat_n, qcat_l, qroom_0, qroom_c, List.map_cons, List.map_nil, List.sum_cons, List.sum_nil, Nat.reduceAdd, Nat.reduceMul, Nat.reduceLT, Nat.reduceLeDiff, Nat.reduceEqDiff, Nat.reduceSub, decide_true, true_and, and_true, and_self, if_true, if_false, Option.toList_some, Option.toList_none, List.cons_append, List.nil_append, qsL, qlong, List.length_cons, List.length_nil, iN_L, show kv 0 < iN 0 from by decide, iN_eq]
set_option maxRecDepth 100000 in
set_option maxHeartbeats 16000000 in
/-- the next choice -/
theorem fp_N {K : Nat} {y1 : Int32} {x2 x3 : Option Value} (s : ShM h) (hd : mi h 8 = iN D) (hn : mi h 9 = iN n) (h16 : n ≤ 16) (hD : D < n) (hD4 : 2 ≤ D ∧ D ≤ 4) (hc : ∀ k, k < D → hi h 67 k = iN (c k) ∧ c k < n) (ht : topK n D c D = K + 1) : ∃ g, (∀ R, qEv (d + 4) 3 qk_208 101 [some (.ref 55), some (.int y1), x2, x3] [] h R ↔ qEv (d + 4) 3 qk_208 45 [some (.ref 55), some (.int (iN 1)), some (.int (iN K)), some (.int (iN D))] [] (sI h 67 g) R) ∧ ∀ k, k < D → g k = iN (nxC D K c k) := by
  have hK := topK_le n D c D
  rw [ht] at hK
  have hk : iN (D - 1) = kv D := by
    obtain ⟨j, rfl⟩ : ∃ j, D = j + 1 := ⟨D - 1, by omega⟩
    rfl
  have sh : ∀ G, ShM (sI h 67 G) := fun G => s.rowI (kM_67 s)
  have hcK := hc K (by omega)
  refine ⟨fun k => if K ≤ k ∧ k < K + 1 + (D - (K + 1)) then iN (c K + 1 + (k - K)) else hi h 67 k, fun R => ?_, fun k hkD => ?_⟩
  rotate_left
  · show (if K ≤ k ∧ k < K + 1 + (D - (K + 1)) then _ else _) = _
    rw [show nxC D K c k = if k < K then c k else c K + 1 + (k - K) from if_neg (by omega)]
    by_cases h1 : k < K
    · rw [if_neg (show ¬ (K ≤ k ∧ k < K + 1 + (D - (K + 1))) by omega), if_pos h1, (hc k hkD).1]
    · rw [if_pos (show K ≤ k ∧ k < K + 1 + (D - (K + 1)) by omega), if_neg h1]
  · simp (disch := first | assumption | omega) only [e208_0, e208_1, e208_2, e208_5, e208_6, e208_7, e208_8, e208_9, e208_12, e208_15, e208_16, e208_19, e208_20, e208_21, e208_22, e208_25, e208_28, e208_29, e208_32, e208_33, e208_36, e208_39, e208_40, e208_43, e208_44, e208_46, e208_49, e208_50, e208_53, e208_54, e208_57, e208_58, e208_59, e208_60, e208_61, e208_64, e208_65, e208_68, e208_69, e208_70, e208_71, e208_72, e208_75, e208_76, e208_79, e208_80, e208_81, e208_82, e208_83, e208_86, e208_87, e208_90, e208_91, e208_92, e208_93, e208_94, e208_97, e208_98, e208_101, e208_102, e208_105, e208_106, e208_107, e208_109, e208_112, e208_113, e208_116, e208_117, e208_118, e208_119, e208_122, e208_123, e208_126, e208_127, e208_128, e208_129, e208_132, e208_135, e208_139, e208_142, e208_143, e208_146, e208_147, e208_148, e208_149, e208_152, e208_153, e208_156, e208_157, e208_158, e208_159, e208_160, e208_161, e208_162, e208_163, e208_164, e208_165, e208_166, e208_167, e208_168, e208_171, e208_174, e208_175, e208_178, e208_179, e208_180, e208_183, e208_184, e208_185, e208_186, e208_187, e208_188, e208_189, e208_190, e208_193, e208_196, e208_199, e208_200, e208_203, e208_206, e208_207, e208_210, e208_211, m208, ↓reduceIte, qg_0, qg_1, qg_2, qg_3, qg_4, qg_5, qg_6, qg_7, qg_8, qg_9, qg_10, qg_11, qg_12, qg_13, not_true_eq_false, not_false_eq_true, Nat.reduceBEq, Bool.false_eq_true, ex1, ex3, ex4, exF, qfit_i, qfit_l, qfit_r, qfit_n, qfit_b0, qfit_b1, qcat_i, qcat_r, qcat_n, qcat_l, qroom_0, qroom_c, List.map_cons, List.map_nil, List.sum_cons, List.sum_nil, Nat.reduceAdd, Nat.reduceMul, Nat.reduceLT, Nat.reduceLeDiff, Nat.reduceEqDiff, Nat.reduceSub, decide_true, true_and, and_true, and_self, if_true, if_false, Option.toList_some, Option.toList_none, List.cons_append, List.nil_append, qsL, qlong, List.length_cons, List.length_nil, gM_8, hd, iN_L, iN_sub, hk]
    rw [fp_K s hd hn h16 hD hD4.2 hc R D (Nat.le_refl _), ht, show kv (K + 1) = iN K from rfl]
    have eq0 : upd (hi h 67) K (iN (c K + 1)) = fun k => if K ≤ k ∧ k < K + 1 + 0 then iN (c K + 1 + (k - K)) else hi h 67 k := by
      funext k
      rw [upd_at]
      by_cases h1 : k = K
      · subst h1; rw [if_pos rfl, if_pos (by omega), Nat.sub_self]
      · rw [if_neg h1, if_neg (by omega)]
    simp (disch := first | assumption | omega) only [e208_0, e208_1, e208_2, e208_5, e208_6, e208_7, e208_8, e208_9, e208_12, e208_15, e208_16, e208_19, e208_20, e208_21, e208_22, e208_25, e208_28, e208_29, e208_32, e208_33, e208_36, e208_39, e208_40, e208_43, e208_44, e208_46, e208_49, e208_50, e208_53, e208_54, e208_57, e208_58, e208_59, e208_60, e208_61, e208_64, e208_65, e208_68, e208_69, e208_70, e208_71, e208_72, e208_75, e208_76, e208_79, e208_80, e208_81, e208_82, e208_83, e208_86, e208_87, e208_90, e208_91, e208_92, e208_93, e208_94, e208_97, e208_98, e208_101, e208_102, e208_105, e208_106, e208_107, e208_109, e208_112, e208_113, e208_116, e208_117, e208_118, e208_119, e208_122, e208_123, e208_126, e208_127, e208_128, e208_129, e208_132, e208_135, e208_138, e208_139, e208_142, e208_143, e208_146, e208_147, e208_148, e208_149, e208_152, e208_153, e208_156, e208_157, e208_158, e208_159, e208_160, e208_161, e208_162, e208_163, e208_164, e208_165, e208_167, e208_168, e208_171, e208_174, e208_175, e208_178, e208_179, e208_180, e208_183, e208_184, e208_185, e208_186, e208_187, e208_188, e208_189, e208_190, e208_193, e208_196, e208_199, e208_200, e208_203, e208_206, e208_207, e208_210, e208_211, m208, ↓reduceIte, qg_0, qg_1, qg_2, qg_3, qg_4, qg_5, qg_6, qg_7, qg_8, qg_9, qg_10, qg_11, qg_12, qg_13, not_true_eq_false, not_false_eq_true, Nat.reduceBEq, Bool.false_eq_true, ex1, ex3, ex4, exF, qfit_i, qfit_l, qfit_r, qfit_n, qfit_b0, qfit_b1, qcat_i, qcat_r, qcat_n, qcat_l, qroom_0, qroom_c, List.map_cons, List.map_nil, List.sum_cons, List.sum_nil, Nat.reduceAdd, Nat.reduceMul, Nat.reduceLT, Nat.reduceLeDiff, Nat.reduceEqDiff, Nat.reduceSub, decide_true, true_and, and_true, and_self, if_true, if_false, Option.toList_some, Option.toList_none, List.cons_append, List.nil_append, qsL, qlong, List.length_cons, List.length_nil, iN_L, iN_lt, Nat.not_lt_zero, iN_eq, gM_15, rM_67, hcK.1, iN_add, wM_67, eq0]
    refine Iff.trans (loop_up (n := D - (K + 1)) (L := fun m => [some (.ref 55), some (.int (iN 1)), some (.int (iN K)), some (.int (iN (K + 1 + m)))]) (H := fun m => sI h 67 (fun k => if K ≤ k ∧ k < K + 1 + m then iN (c K + 1 + (k - K)) else hi h 67 k)) ?_) ?_
    · intro m hm
      try dsimp only
      rw [e208_166]
      have eq2 : (if K ≤ K + 1 + m - 1 ∧ K + 1 + m - 1 < K + 1 + m then iN (c K + 1 + (K + 1 + m - 1 - K)) else hi h 67 (K + 1 + m - 1)) = iN (c K + 1 + m) := by
        rw [if_pos (by omega), show K + 1 + m - 1 - K = m by omega]
      have eq1 : upd (fun k => if K ≤ k ∧ k < K + 1 + m then iN (c K + 1 + (k - K)) else hi h 67 k) (K + 1 + m) (iN (c K + 1 + m + 1)) = fun k => if K ≤ k ∧ k < K + 1 + (m + 1) then iN (c K + 1 + (k - K)) else hi h 67 k := by
        funext k
        rw [upd_at]
        by_cases h1 : k = K + 1 + m
        · subst h1; rw [if_pos rfl, if_pos (by omega), show K + 1 + m - K = m + 1 by omega]; rfl
        · rw [if_neg h1]
          by_cases h2 : K ≤ k ∧ k < K + 1 + m
          · rw [if_pos h2, if_pos (by omega)]
          · rw [if_neg h2, if_neg (by omega)]
      simp (disch := first | assumption | omega | exact sh _) only [e208_0, e208_1, e208_2, e208_5, e208_6, e208_7, e208_8, e208_9, e208_12, e208_15, e208_16, e208_19, e208_20, e208_21, e208_22, e208_25, e208_28, e208_29, e208_32, e208_33, e208_36, e208_39, e208_40, e208_43, e208_44, e208_46, e208_49, e208_50, e208_53, e208_54, e208_57, e208_58, e208_59, e208_60, e208_61, e208_64, e208_65, e208_68, e208_69, e208_70, e208_71, e208_72, e208_75, e208_76, e208_79, e208_80, e208_81, e208_82, e208_83, e208_86, e208_87, e208_90, e208_91, e208_92, e208_93, e208_94, e208_97, e208_98, e208_101, e208_102, e208_105, e208_106, e208_107, e208_109, e208_112, e208_113, e208_116, e208_117, e208_118, e208_119, e208_122, e208_123, e208_126, e208_127, e208_128, e208_129, e208_132, e208_135, e208_138, e208_139, e208_142, e208_143, e208_146, e208_147, e208_148, e208_149, e208_152, e208_153, e208_156, e208_157, e208_158, e208_159, e208_160, e208_161, e208_162, e208_163, e208_164, e208_165, e208_167, e208_168, e208_171, e208_174, e208_175, e208_178, e208_179, e208_180, e208_183, e208_184, e208_185, e208_186, e208_187, e208_188, e208_189, e208_190, e208_193, e208_196, e208_199, e208_200, e208_203, e208_206, e208_207, e208_210, e208_211, m208, ↓reduceIte, qg_0, qg_1, qg_2, qg_3, qg_4, qg_5, qg_6, qg_7, qg_8, qg_9, qg_10, qg_11, qg_12, qg_13, not_true_eq_false, not_false_eq_true, Nat.reduceBEq, Bool.false_eq_true, ex1, ex3, ex4, exF, qfit_i, qfit_l, qfit_r, qfit_n, qfit_b0, qfit_b1, qcat_i, qcat_r, qcat_n, qcat_l, qroom_0, qroom_c, List.map_cons, List.map_nil, List.sum_cons, List.sum_nil, Nat.reduceAdd, Nat.reduceMul, Nat.reduceLT, Nat.reduceLeDiff, Nat.reduceEqDiff, Nat.reduceSub, decide_true, true_and, and_true, and_self, if_true, if_false, Option.toList_some, Option.toList_none, List.cons_append, List.nil_append, qsL, qlong, List.length_cons, List.length_nil, gM_8, gM_15, mi_sI (kM_67 s), hd, iN_L, iN_le, show ¬ D ≤ K + 1 + m by omega, iN_sub, rM_67, hi_sI, eq2, iN_add, wM_67, sI_sI, eq1, exI]
      exact Iff.rfl
    · try dsimp only
      rw [e208_166]
      have hD' : K + 1 + (D - (K + 1)) = D := by omega
      simp (disch := first | assumption | omega | exact sh _) only [e208_0, e208_1, e208_2, e208_5, e208_6, e208_7, e208_8, e208_9, e208_12, e208_15, e208_16, e208_19, e208_20, e208_21, e208_22, e208_25, e208_28, e208_29, e208_32, e208_33, e208_36, e208_39, e208_40, e208_43, e208_44, e208_46, e208_49, e208_50, e208_53, e208_54, e208_57, e208_58, e208_59, e208_60, e208_61, e208_64, e208_65, e208_68, e208_69, e208_70, e208_71, e208_72, e208_75, e208_76, e208_79, e208_80, e208_81, e208_82, e208_83, e208_86, e208_87, e208_90, e208_91, e208_92, e208_93, e208_94, e208_97, e208_98, e208_101, e208_102, e208_105, e208_106, e208_107, e208_109, e208_112, e208_113, e208_116, e208_117, e208_118, e208_119, e208_122, e208_123, e208_126, e208_127, e208_128, e208_129, e208_132, e208_135, e208_138, e208_139, e208_142, e208_143, e208_146, e208_147, e208_148, e208_149, e208_152, e208_153, e208_156, e208_157, e208_158, e208_159, e208_160, e208_161, e208_162, e208_163, e208_164, e208_165, e208_167, e208_168, e208_171, e208_174, e208_175, e208_178, e208_179, e208_180, e208_183, e208_184, e208_185, e208_186, e208_187, e208_188, e208_189, e208_190, e208_193, e208_196, e208_199, e208_200, e208_203, e208_206, e208_207, e208_210, e208_211, m208, ↓reduceIte, qg_0, qg_1, qg_2, qg_3, qg_4, qg_5, qg_6, qg_7, qg_8, qg_9, qg_10, qg_11, qg_12, qg_13, not_true_eq_false, not_false_eq_true, Nat.reduceBEq, Bool.false_eq_true, ex1, ex3, ex4, exF, qfit_i, qfit_l, qfit_r, qfit_n, qfit_b0, qfit_b1, qcat_i, qcat_r, qcat_n, qcat_l, qroom_0, qroom_c, List.map_cons, List.map_nil, List.sum_cons, List.sum_nil, Nat.reduceAdd, Nat.reduceMul, Nat.reduceLT, Nat.reduceLeDiff, Nat.reduceEqDiff, Nat.reduceSub, decide_true, true_and, and_true, and_self, if_true, if_false, Option.toList_some, Option.toList_none, List.cons_append, List.nil_append, qsL, qlong, List.length_cons, List.length_nil, gM_8, mi_sI (kM_67 s), hd, iN_L, hD', iN_le, Nat.le_refl]
end ENUM

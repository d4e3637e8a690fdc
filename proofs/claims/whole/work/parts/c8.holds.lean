/-! ===== THE REFERENCE: where, parted, holds ===== -/
section HOLDS
variable {d : Nat} {h : qH} {bs : List bdy}
set_option maxRecDepth 100000 in
set_option maxHeartbeats 16000000 in
/-- a set is looked for among the cells -/
theorem wh_find {i m : Nat} {x2 x3 x4 x5 : Option Value} {u7 : Int32} (s : ShM h) (B : BsM h bs) (hi' : i < bs.length) (hm : m < 65536) : ∀ (w k : Nat) (x9 x10 : Option Value), k + w = dmn bs i → (∃ t, k ≤ t ∧ t < dmn bs i ∧ m ∈ cel bs i t) → ∃ t, (k ≤ t ∧ t < dmn bs i ∧ m ∈ cel bs i t ∧ ∀ t', k ≤ t' → t' < t → m ∉ cel bs i t') ∧ ∀ R, qEv (d + 2) 0 qk_279 116 [some (.ref 55), some (.int (iN i)), x2, x3, x4, x5, some (.int (iN m)), some (.int u7), some (.int (iN k)), x9, x10] [] h R ↔ R = (some (.int (iN t)), h) := by
  have b24 := B.1
  obtain ⟨di, d2, d4⟩ := B.dim hi'
  intro w
  induction w with
  | zero => rintro k x9 x10 hk ⟨t, t1, t2, -⟩; omega
  | succ w ih =>
    intro k x9 x10 hk hex
    have hkd : k < dmn bs i := by omega
    obtain ⟨-, c208, cc⟩ := B.cells hi' k (by omega)
    have sm : ∀ R, qMC (d + 2) 195 [.ref 55, .int (iN i), .int (iN k)] h R ↔ R = (some (.int (iN (cel bs i k).length)), h) := fun R => s_manyC s B hi' (by omega)
    have so : ∀ e, e < (cel bs i k).length → ∀ R, qMC (d + 2) 196 [.ref 55, .int (iN i), .int (iN k), .int (iN e)] h R ↔ R = (some (.int (iN ((cel bs i k).getD e 0))), h) := fun e he R => s_setOfC s B hi' (by omega) he
    have q0 : ∀ R, ∃ y10, (qEv (d + 2) 0 qk_279 116 [some (.ref 55), some (.int (iN i)), x2, x3, x4, x5, some (.int (iN m)), some (.int u7), some (.int (iN k)), x9, x10] [] h R ↔ qEv (d + 2) 0 qk_279 130 [some (.ref 55), some (.int (iN i)), x2, x3, x4, x5, some (.int (iN m)), some (.int u7), some (.int (iN k)), some (.int (iN 0)), y10] [] h R) := by
      intro R
      refine ⟨x10, ?_⟩
      rw [e279_116]
      simp (disch := first | assumption | omega) only [e279_0, e279_1, e279_2, e279_5, e279_6, e279_7, e279_8, e279_9, e279_10, e279_12, e279_13, e279_15, e279_16, e279_20, e279_21, e279_22, e279_25, e279_28, e279_29, e279_30, e279_32, e279_33, e279_34, e279_36, e279_38, e279_39, e279_42, e279_44, e279_46, e279_47, e279_48, e279_51, e279_52, e279_53, e279_55, e279_58, e279_60, e279_61, e279_62, e279_65, e279_66, e279_69, e279_70, e279_72, e279_74, e279_76, e279_77, e279_78, e279_81, e279_82, e279_83, e279_85, e279_88, e279_91, e279_92, e279_93, e279_95, e279_98, e279_101, e279_103, e279_106, e279_107, e279_110, e279_111, e279_112, e279_113, e279_114, e279_118, e279_119, e279_122, e279_123, e279_124, e279_127, e279_128, e279_132, e279_133, e279_134, e279_136, e279_139, e279_142, e279_143, e279_144, e279_146, e279_148, e279_151, e279_153, e279_156, e279_158, e279_159, e279_162, e279_165, e279_168, e279_171, e279_172, m279, ↓reduceIte, qg_0, qg_1, qg_2, qg_3, qg_4, qg_5, qg_6, qg_7, qg_8, qg_9, qg_10, qg_11, qg_12, qg_13, not_true_eq_false, not_false_eq_true, Nat.reduceBEq, Bool.false_eq_true, ex1, ex3, ex4, exF, qfit_i, qfit_l, qfit_r, qfit_n, qfit_b0, qfit_b1, qcat_i, qcat_r, qcat_n, qcat_l, qroom_0, qroom_c, List.map_cons, List.map_nil, List.sum_cons, List.sum_nil, Nat.reduceAdd, Nat.reduceMul, Nat.reduceLT, Nat.reduceLeDiff, Nat.reduceEqDiff, Nat.reduceSub, decide_true, true_and, and_true, and_self, if_true, if_false, Option.toList_some, Option.toList_none, List.cons_append, List.nil_append, qsL, qlong, List.length_cons, List.length_nil, iN_L, vM1, vM2, exI, iN_add, iN_mul, iN_le, iN_lt, iN_eq, Nat.le_refl, qfN0, qfN1, gM_1, rM_56, di, show ¬ dmn bs i ≤ k by omega]
    -- the inner row
    have inn : ∀ (u e : Nat), e + u = (cel bs i k).length → (∃ t, e ≤ t ∧ t < (cel bs i k).length ∧ (cel bs i k).getD t 0 = m) → ∀ y10 R, qEv (d + 2) 0 qk_279 130 [some (.ref 55), some (.int (iN i)), x2, x3, x4, x5, some (.int (iN m)), some (.int u7), some (.int (iN k)), some (.int (iN e)), y10] [] h R ↔ R = (some (.int (iN k)), h) := by
      intro u
      induction u with
      | zero => rintro e he ⟨t, t1, t2, -⟩; omega
      | succ u ihu =>
        intro e he hx y10 R
        have hel : e < (cel bs i k).length := by omega
        have bj := (cc e hel).2
        have soe := so e hel
        rw [e279_130]
        by_cases q : (cel bs i k).getD e 0 = m
        · simp (disch := first | assumption | omega) only [e279_0, e279_1, e279_2, e279_5, e279_6, e279_7, e279_8, e279_9, e279_10, e279_12, e279_13, e279_15, e279_16, e279_18, e279_20, e279_21, e279_22, e279_25, e279_28, e279_29, e279_30, e279_32, e279_33, e279_34, e279_36, e279_38, e279_39, e279_42, e279_44, e279_46, e279_47, e279_48, e279_51, e279_52, e279_53, e279_55, e279_58, e279_60, e279_61, e279_62, e279_65, e279_66, e279_69, e279_70, e279_72, e279_74, e279_76, e279_77, e279_78, e279_81, e279_82, e279_83, e279_85, e279_88, e279_91, e279_92, e279_93, e279_95, e279_98, e279_101, e279_103, e279_106, e279_107, e279_110, e279_111, e279_112, e279_113, e279_114, e279_116, e279_118, e279_119, e279_122, e279_123, e279_124, e279_127, e279_128, e279_132, e279_133, e279_134, e279_136, e279_139, e279_142, e279_143, e279_144, e279_146, e279_148, e279_151, e279_153, e279_156, e279_158, e279_159, e279_162, e279_165, e279_168, e279_171, e279_172, m279, ↓reduceIte, qg_0, qg_1, qg_2, qg_3, qg_4, qg_5, qg_6, qg_7, qg_8, qg_9, qg_10, qg_11, qg_12, qg_13, not_true_eq_false, not_false_eq_true, Nat.reduceBEq, Bool.false_eq_true, ex1, ex3, ex4, exF, qfit_i, qfit_l, qfit_r, qfit_n, qfit_b0, qfit_b1, qcat_i, qcat_r, qcat_n, qcat_l, qroom_0, qroom_c, List.map_cons, List.map_nil, List.sum_cons, List.sum_nil, Nat.reduceAdd, Nat.reduceMul, Nat.reduceLT, Nat.reduceLeDiff, Nat.reduceEqDiff, Nat.reduceSub, decide_true, true_and, and_true, and_self, if_true, if_false, Option.toList_some, Option.toList_none, List.cons_append, List.nil_append, qsL, qlong, List.length_cons, List.length_nil, iN_L, vM1, vM2, exI, iN_add, iN_mul, iN_le, iN_lt, iN_eq, Nat.le_refl, qfN0, qfN1, sm, show ¬ (cel bs i k).length ≤ e by omega, soe, q]
        · rw [← ihu (e + 1) (by omega) (by
            obtain ⟨t, t1, t2, t3⟩ := hx
            refine ⟨t, ?_, t2, t3⟩
            rcases Nat.lt_or_ge e t with z | z
            · exact z
            · exact absurd (show (cel bs i k).getD e 0 = m by rw [show e = t by omega]; exact t3) q) y10 R]
          simp (disch := first | assumption | omega) only [e279_0, e279_1, e279_2, e279_5, e279_6, e279_7, e279_8, e279_9, e279_10, e279_12, e279_13, e279_15, e279_16, e279_18, e279_20, e279_21, e279_22, e279_25, e279_28, e279_29, e279_30, e279_32, e279_33, e279_34, e279_36, e279_38, e279_39, e279_42, e279_44, e279_46, e279_47, e279_48, e279_51, e279_52, e279_53, e279_55, e279_58, e279_60, e279_61, e279_62, e279_65, e279_66, e279_69, e279_70, e279_72, e279_74, e279_76, e279_77, e279_78, e279_81, e279_82, e279_83, e279_85, e279_88, e279_91, e279_92, e279_93, e279_95, e279_98, e279_101, e279_103, e279_106, e279_107, e279_110, e279_111, e279_112, e279_113, e279_114, e279_116, e279_118, e279_119, e279_122, e279_123, e279_124, e279_127, e279_128, e279_132, e279_133, e279_134, e279_136, e279_139, e279_142, e279_143, e279_144, e279_146, e279_148, e279_151, e279_153, e279_156, e279_158, e279_159, e279_162, e279_165, e279_168, e279_171, e279_172, m279, ↓reduceIte, qg_0, qg_1, qg_2, qg_3, qg_4, qg_5, qg_6, qg_7, qg_8, qg_9, qg_10, qg_11, qg_12, qg_13, not_true_eq_false, not_false_eq_true, Nat.reduceBEq, Bool.false_eq_true, ex1, ex3, ex4, exF, qfit_i, qfit_l, qfit_r, qfit_n, qfit_b0, qfit_b1, qcat_i, qcat_r, qcat_n, qcat_l, qroom_0, qroom_c, List.map_cons, List.map_nil, List.sum_cons, List.sum_nil, Nat.reduceAdd, Nat.reduceMul, Nat.reduceLT, Nat.reduceLeDiff, Nat.reduceEqDiff, Nat.reduceSub, decide_true, true_and, and_true, and_self, if_true, if_false, Option.toList_some, Option.toList_none, List.cons_append, List.nil_append, qsL, qlong, List.length_cons, List.length_nil, iN_L, vM1, vM2, exI, iN_add, iN_mul, iN_le, iN_lt, iN_eq, Nat.le_refl, qfN0, qfN1, sm, show ¬ (cel bs i k).length ≤ e by omega, soe, q]
    have out : ∀ (u e : Nat), e + u = (cel bs i k).length → (∀ t, e ≤ t → t < (cel bs i k).length → (cel bs i k).getD t 0 ≠ m) → ∀ y10 R, qEv (d + 2) 0 qk_279 130 [some (.ref 55), some (.int (iN i)), x2, x3, x4, x5, some (.int (iN m)), some (.int u7), some (.int (iN k)), some (.int (iN e)), y10] [] h R ↔ qEv (d + 2) 0 qk_279 116 [some (.ref 55), some (.int (iN i)), x2, x3, x4, x5, some (.int (iN m)), some (.int u7), some (.int (iN (k + 1))), some (.int (iN ((cel bs i k).length))), y10] [] h R := by
      intro u
      induction u with
      | zero =>
        intro e he _ y10 R
        rw [show e = (cel bs i k).length by omega, e279_130]
        simp (disch := first | assumption | omega) only [e279_0, e279_1, e279_2, e279_5, e279_6, e279_7, e279_8, e279_9, e279_10, e279_12, e279_13, e279_15, e279_16, e279_18, e279_20, e279_21, e279_22, e279_25, e279_28, e279_29, e279_30, e279_32, e279_33, e279_34, e279_36, e279_38, e279_39, e279_42, e279_44, e279_46, e279_47, e279_48, e279_51, e279_52, e279_53, e279_55, e279_58, e279_60, e279_61, e279_62, e279_65, e279_66, e279_69, e279_70, e279_72, e279_74, e279_76, e279_77, e279_78, e279_81, e279_82, e279_83, e279_85, e279_88, e279_91, e279_92, e279_93, e279_95, e279_98, e279_101, e279_103, e279_106, e279_107, e279_110, e279_111, e279_112, e279_113, e279_114, e279_118, e279_119, e279_122, e279_123, e279_124, e279_127, e279_128, e279_132, e279_133, e279_134, e279_136, e279_139, e279_142, e279_143, e279_144, e279_146, e279_148, e279_151, e279_153, e279_156, e279_158, e279_159, e279_162, e279_165, e279_168, e279_171, e279_172, m279, ↓reduceIte, qg_0, qg_1, qg_2, qg_3, qg_4, qg_5, qg_6, qg_7, qg_8, qg_9, qg_10, qg_11, qg_12, qg_13, not_true_eq_false, not_false_eq_true, Nat.reduceBEq, Bool.false_eq_true, ex1, ex3, ex4, exF, qfit_i, qfit_l, qfit_r, qfit_n, qfit_b0, qfit_b1, qcat_i, qcat_r, qcat_n, qcat_l, qroom_0, qroom_c, List.map_cons, List.map_nil, List.sum_cons, List.sum_nil, Nat.reduceAdd, Nat.reduceMul, Nat.reduceLT, Nat.reduceLeDiff, Nat.reduceEqDiff, Nat.reduceSub, decide_true, true_and, and_true, and_self, if_true, if_false, Option.toList_some, Option.toList_none, List.cons_append, List.nil_append, qsL, qlong, List.length_cons, List.length_nil, iN_L, vM1, vM2, exI, iN_add, iN_mul, iN_le, iN_lt, iN_eq, Nat.le_refl, qfN0, qfN1, sm]
      | succ u ihu =>
        intro e he hx y10 R
        have hel : e < (cel bs i k).length := by omega
        have bj := (cc e hel).2
        have soe := so e hel
        have q := hx e (Nat.le_refl _) hel
        rw [← ihu (e + 1) (by omega) (fun t h1 h2 => hx t (by omega) h2) y10 R, e279_130]
        simp (disch := first | assumption | omega) only [e279_0, e279_1, e279_2, e279_5, e279_6, e279_7, e279_8, e279_9, e279_10, e279_12, e279_13, e279_15, e279_16, e279_18, e279_20, e279_21, e279_22, e279_25, e279_28, e279_29, e279_30, e279_32, e279_33, e279_34, e279_36, e279_38, e279_39, e279_42, e279_44, e279_46, e279_47, e279_48, e279_51, e279_52, e279_53, e279_55, e279_58, e279_60, e279_61, e279_62, e279_65, e279_66, e279_69, e279_70, e279_72, e279_74, e279_76, e279_77, e279_78, e279_81, e279_82, e279_83, e279_85, e279_88, e279_91, e279_92, e279_93, e279_95, e279_98, e279_101, e279_103, e279_106, e279_107, e279_110, e279_111, e279_112, e279_113, e279_114, e279_118, e279_119, e279_122, e279_123, e279_124, e279_127, e279_128, e279_132, e279_133, e279_134, e279_136, e279_139, e279_142, e279_143, e279_144, e279_146, e279_148, e279_151, e279_153, e279_156, e279_158, e279_159, e279_162, e279_165, e279_168, e279_171, e279_172, m279, ↓reduceIte, qg_0, qg_1, qg_2, qg_3, qg_4, qg_5, qg_6, qg_7, qg_8, qg_9, qg_10, qg_11, qg_12, qg_13, not_true_eq_false, not_false_eq_true, Nat.reduceBEq, Bool.false_eq_true, ex1, ex3, ex4, exF, qfit_i, qfit_l, qfit_r, qfit_n, qfit_b0, qfit_b1, qcat_i, qcat_r, qcat_n, qcat_l, qroom_0, qroom_c, List.map_cons, List.map_nil, List.sum_cons, List.sum_nil, Nat.reduceAdd, Nat.reduceMul, Nat.reduceLT, Nat.reduceLeDiff, Nat.reduceEqDiff, Nat.reduceSub, decide_true, true_and, and_true, and_self, if_true, if_false, Option.toList_some, Option.toList_none, List.cons_append, List.nil_append, qsL, qlong, List.length_cons, List.length_nil, iN_L, vM1, vM2, exI, iN_add, iN_mul, iN_le, iN_lt, iN_eq, Nat.le_refl, qfN0, qfN1, sm, show ¬ (cel bs i k).length ≤ e by omega, soe, q]
    have memi : m ∈ cel bs i k ↔ ∃ t, t < (cel bs i k).length ∧ (cel bs i k).getD t 0 = m := by
      constructor
      · intro hmem
        obtain ⟨t, ht, e⟩ := List.getElem_of_mem hmem
        exact ⟨t, ht, by rw [List.getD_eq_getElem?_getD, List.getElem?_eq_getElem ht]; exact e⟩
      · rintro ⟨t, ht, e⟩
        rw [← e, List.getD_eq_getElem?_getD, List.getElem?_eq_getElem ht]; exact List.getElem_mem ht
    by_cases hmem : m ∈ cel bs i k
    · refine ⟨k, ⟨Nat.le_refl _, hkd, hmem, fun t' h1 h2 => by omega⟩, fun R => ?_⟩
      obtain ⟨y10, q⟩ := q0 R
      obtain ⟨t, t1, t2⟩ := memi.mp hmem
      rw [q]
      exact inn (cel bs i k).length 0 (by omega) ⟨t, Nat.zero_le _, t1, t2⟩ y10 R
    · obtain ⟨t, ⟨t1, t2, t3, t4⟩, r⟩ := ih (k + 1) (some (.int (iN (cel bs i k).length))) x10 (by omega) (by
        obtain ⟨t, t1, t2, t3⟩ := hex
        refine ⟨t, ?_, t2, t3⟩
        rcases Nat.lt_or_ge k t with z | z
        · exact z
        · exact absurd (show m ∈ cel bs i k by rw [show k = t by omega]; exact t3) hmem)
      refine ⟨t, ⟨by omega, t2, t3, fun t' h1 h2 => ?_⟩, fun R => ?_⟩
      · by_cases e : t' = k
        · rw [e]; exact hmem
        · exact t4 t' (by omega) h2
      · have q : qEv (d + 2) 0 qk_279 116 [some (.ref 55), some (.int (iN i)), x2, x3, x4, x5, some (.int (iN m)), some (.int u7), some (.int (iN k)), x9, x10] [] h R ↔ qEv (d + 2) 0 qk_279 130 [some (.ref 55), some (.int (iN i)), x2, x3, x4, x5, some (.int (iN m)), some (.int u7), some (.int (iN k)), some (.int (iN 0)), x10] [] h R := by
          rw [e279_116]
          simp (disch := first | assumption | omega) only [e279_0, e279_1, e279_2, e279_5, e279_6, e279_7, e279_8, e279_9, e279_10, e279_12, e279_13, e279_15, e279_16, e279_20, e279_21, e279_22, e279_25, e279_28, e279_29, e279_30, e279_32, e279_33, e279_34, e279_36, e279_38, e279_39, e279_42, e279_44, e279_46, e279_47, e279_48, e279_51, e279_52, e279_53, e279_55, e279_58, e279_60, e279_61, e279_62, e279_65, e279_66, e279_69, e279_70, e279_72, e279_74, e279_76, e279_77, e279_78, e279_81, e279_82, e279_83, e279_85, e279_88, e279_91, e279_92, e279_93, e279_95, e279_98, e279_101, e279_103, e279_106, e279_107, e279_110, e279_111, e279_112, e279_113, e279_114, e279_118, e279_119, e279_122, e279_123, e279_124, e279_127, e279_128, e279_132, e279_133, e279_134, e279_136, e279_139, e279_142, e279_143, e279_144, e279_146, e279_148, e279_151, e279_153, e279_156, e279_158, e279_159, e279_162, e279_165, e279_168, e279_171, e279_172, m279, ↓reduceIte, qg_0, qg_1, qg_2, qg_3, qg_4, qg_5, qg_6, qg_7, qg_8, qg_9, qg_10, qg_11, qg_12, qg_13, not_true_eq_false, not_false_eq_true, Nat.reduceBEq, Bool.false_eq_true, ex1, ex3, ex4, exF, qfit_i, qfit_l, qfit_r, qfit_n, qfit_b0, qfit_b1, qcat_i, qcat_r, qcat_n, qcat_l, qroom_0, qroom_c, List.map_cons, List.map_nil, List.sum_cons, List.sum_nil, Nat.reduceAdd, Nat.reduceMul, Nat.reduceLT, Nat.reduceLeDiff, Nat.reduceEqDiff, Nat.reduceSub, decide_true, true_and, and_true, and_self, if_true, if_false, Option.toList_some, Option.toList_none, List.cons_append, List.nil_append, qsL, qlong, List.length_cons, List.length_nil, iN_L, vM1, vM2, exI, iN_add, iN_mul, iN_le, iN_lt, iN_eq, Nat.le_refl, qfN0, qfN1, gM_1, rM_56, di, show ¬ dmn bs i ≤ k by omega]
        rw [q, out (cel bs i k).length 0 (by omega) (fun t _ h2 e => hmem (memi.mpr ⟨t, h2, e⟩)) x10 R]
        exact r R
set_option maxRecDepth 100000 in
set_option maxHeartbeats 16000000 in
theorem s_whereIs {i : Nat} {p : pt4} {Qv : Nat → Nat → Int} (s : ShM h) (B : BsM h bs) (hi' : i < bs.length) (v : PlV h bs i Qv) (hp : smN8 p) : ∃ x, (∀ R, qMC (d + 3) 279 [.ref 55, .int (iN i), .int (iZ p.1), .int (iZ p.2.1), .int (iZ p.2.2.1), .int (iZ p.2.2.2)] h R ↔ R = (some (.int x), h)) ∧ whrZ bs i Qv p x := by
  have b24 := B.1
  have cv := B.corn hi'
  have cl := cv.2.1
  obtain ⟨di, d2, d4⟩ := B.dim hi'
  have p31 : 2 ^ (cnr bs i).length < 2147483648 := pow31 (by omega)
  have r0 : ∀ R, qMC (d + 3) 279 [.ref 55, .int (iN i), .int (iZ p.1), .int (iZ p.2.1), .int (iZ p.2.2.1), .int (iZ p.2.2.2)] h R ↔ qEv (d + 2) 0 qk_279 18 [some (.ref 55), some (.int (iN i)), some (.int (iZ p.1)), some (.int (iZ p.2.1)), some (.int (iZ p.2.2.1)), some (.int (iZ p.2.2.2)), some (.int (iN (comS (fct bs i) (fun j => decide (ovZ (Qv j) (dmn bs i) p 1 = 0)) (cnr bs i).length 0))), some (.int (bB (anyN (fun j => decide (ovZ (Qv j) (dmn bs i) p 1 = 0)) 0))), some (.int (iN 0)), none, none] [] h R := by
    intro R
    have e0 : comS (fct bs i) (fun j => decide (ovZ (Qv j) (dmn bs i) p 1 = 0)) (cnr bs i).length 0 = 2 ^ (cnr bs i).length - 1 := mask_all.symm
    have pp : 1 ≤ 2 ^ (cnr bs i).length := Nat.two_pow_pos _
    rw [e0]
    simp (disch := first | assumption | omega) only [e279_0, e279_1, e279_2, e279_5, e279_6, e279_7, e279_8, e279_9, e279_10, e279_12, e279_13, e279_15, e279_16, e279_20, e279_21, e279_22, e279_25, e279_28, e279_29, e279_30, e279_32, e279_33, e279_34, e279_36, e279_38, e279_39, e279_42, e279_44, e279_46, e279_47, e279_48, e279_51, e279_52, e279_53, e279_55, e279_58, e279_60, e279_61, e279_62, e279_65, e279_66, e279_69, e279_70, e279_72, e279_74, e279_76, e279_77, e279_78, e279_81, e279_82, e279_83, e279_85, e279_88, e279_91, e279_92, e279_93, e279_95, e279_98, e279_101, e279_103, e279_106, e279_107, e279_110, e279_111, e279_112, e279_113, e279_114, e279_118, e279_119, e279_122, e279_123, e279_124, e279_127, e279_128, e279_132, e279_133, e279_134, e279_136, e279_139, e279_142, e279_143, e279_144, e279_146, e279_148, e279_151, e279_153, e279_156, e279_158, e279_159, e279_162, e279_165, e279_168, e279_171, e279_172, m279, ↓reduceIte, qg_0, qg_1, qg_2, qg_3, qg_4, qg_5, qg_6, qg_7, qg_8, qg_9, qg_10, qg_11, qg_12, qg_13, not_true_eq_false, not_false_eq_true, Nat.reduceBEq, Bool.false_eq_true, ex1, ex3, ex4, exF, qfit_i, qfit_l, qfit_r, qfit_n, qfit_b0, qfit_b1, qcat_i, qcat_r, qcat_n, qcat_l, qroom_0, qroom_c, List.map_cons, List.map_nil, List.sum_cons, List.sum_nil, Nat.reduceAdd, Nat.reduceMul, Nat.reduceLT, Nat.reduceLeDiff, Nat.reduceEqDiff, Nat.reduceSub, decide_true, true_and, and_true, and_self, if_true, if_false, Option.toList_some, Option.toList_none, List.cons_append, List.nil_append, qsL, qlong, List.length_cons, List.length_nil, iN_L, vM1, vM2, exI, iN_add, iN_mul, iN_le, iN_lt, iN_eq, Nat.le_refl, qfN0, qfN1, gM_2, rM_57, cv.1, iN_shl1, iN_sub, anyN, bB_f]
  rcases wh_loop (d := d) s B hi' v hp (fct bs i).length 0 none none (by omega) (fun t ht => absurd ht (Nat.not_lt_zero t)) with ⟨a1, a2⟩ | ⟨a1, y9, y10, a2⟩
  · exact ⟨-1, fun R => (r0 R).trans (a2 R), Or.inl ⟨a1, rfl⟩⟩
  · by_cases hz : ∃ j, j < (fct bs i).length ∧ ovZ (Qv j) (dmn bs i) p 1 = 0
    · have an : anyN (fun j => decide (ovZ (Qv j) (dmn bs i) p 1 = 0)) (fct bs i).length = true := anyN_iff.mpr (by obtain ⟨j, h1, h2⟩ := hz; exact ⟨j, h1, decide_eq_true h2⟩)
      obtain ⟨k, hk, hm⟩ := B.tight hi' v a1 hz
      obtain ⟨t, ⟨-, t2, t3, t4⟩, r⟩ := wh_find (d := d) (m := comS (fct bs i) (fun j => decide (ovZ (Qv j) (dmn bs i) p 1 = 0)) (cnr bs i).length (fct bs i).length) (x2 := some (.int (iZ p.1))) (x3 := some (.int (iZ p.2.1))) (x4 := some (.int (iZ p.2.2.1))) (x5 := some (.int (iZ p.2.2.2))) (u7 := iN 1) s B hi' (mask_16 cl) (dmn bs i) 0 y9 y10 (by omega) ⟨k, Nat.zero_le _, hk, hm⟩
      refine ⟨iN t, fun R => ?_, Or.inr (Or.inr ⟨a1, hz, t, ⟨t2, t3, fun k' hk' => t4 k' (Nat.zero_le _) hk'⟩, rfl⟩)⟩
      rw [r0 R, a2 R, an, ← r R]
      simp (disch := first | assumption | omega) only [e279_0, e279_1, e279_2, e279_5, e279_6, e279_7, e279_8, e279_9, e279_10, e279_12, e279_13, e279_15, e279_16, e279_20, e279_21, e279_22, e279_25, e279_28, e279_29, e279_30, e279_32, e279_33, e279_34, e279_36, e279_38, e279_39, e279_42, e279_44, e279_46, e279_47, e279_48, e279_51, e279_52, e279_53, e279_55, e279_58, e279_60, e279_61, e279_62, e279_65, e279_66, e279_69, e279_70, e279_72, e279_74, e279_76, e279_77, e279_78, e279_81, e279_82, e279_83, e279_85, e279_88, e279_91, e279_92, e279_93, e279_95, e279_98, e279_101, e279_103, e279_106, e279_107, e279_110, e279_111, e279_112, e279_113, e279_114, e279_118, e279_119, e279_122, e279_123, e279_124, e279_127, e279_128, e279_132, e279_133, e279_134, e279_136, e279_139, e279_142, e279_143, e279_144, e279_146, e279_148, e279_151, e279_153, e279_156, e279_158, e279_159, e279_162, e279_165, e279_168, e279_171, e279_172, m279, ↓reduceIte, qg_0, qg_1, qg_2, qg_3, qg_4, qg_5, qg_6, qg_7, qg_8, qg_9, qg_10, qg_11, qg_12, qg_13, not_true_eq_false, not_false_eq_true, Nat.reduceBEq, Bool.false_eq_true, ex1, ex3, ex4, exF, qfit_i, qfit_l, qfit_r, qfit_n, qfit_b0, qfit_b1, qcat_i, qcat_r, qcat_n, qcat_l, qroom_0, qroom_c, List.map_cons, List.map_nil, List.sum_cons, List.sum_nil, Nat.reduceAdd, Nat.reduceMul, Nat.reduceLT, Nat.reduceLeDiff, Nat.reduceEqDiff, Nat.reduceSub, decide_true, true_and, and_true, and_self, if_true, if_false, Option.toList_some, Option.toList_none, List.cons_append, List.nil_append, qsL, qlong, List.length_cons, List.length_nil, iN_L, vM1, vM2, exI, iN_add, iN_mul, iN_le, iN_lt, iN_eq, Nat.le_refl, qfN0, qfN1, bB_t, iN10]
    · refine ⟨iN (dmn bs i), fun R => ?_, Or.inr (Or.inl ⟨fun j hj => ?_, rfl⟩)⟩
      · have an : anyN (fun j => decide (ovZ (Qv j) (dmn bs i) p 1 = 0)) (fct bs i).length = false := by
          cases e : anyN (fun j => decide (ovZ (Qv j) (dmn bs i) p 1 = 0)) (fct bs i).length with
          | false => rfl
          | true =>
            obtain ⟨j, h1, h2⟩ := anyN_iff.mp e
            exact absurd ⟨j, h1, of_decide_eq_true h2⟩ hz
        rw [r0 R, a2 R, an]
        simp (disch := first | assumption | omega) only [e279_0, e279_1, e279_2, e279_5, e279_6, e279_7, e279_8, e279_9, e279_10, e279_12, e279_13, e279_15, e279_16, e279_20, e279_21, e279_22, e279_25, e279_28, e279_29, e279_30, e279_32, e279_33, e279_34, e279_36, e279_38, e279_39, e279_42, e279_44, e279_46, e279_47, e279_48, e279_51, e279_52, e279_53, e279_55, e279_58, e279_60, e279_61, e279_62, e279_65, e279_66, e279_69, e279_70, e279_72, e279_74, e279_76, e279_77, e279_78, e279_81, e279_82, e279_83, e279_85, e279_88, e279_91, e279_92, e279_93, e279_95, e279_98, e279_101, e279_103, e279_106, e279_107, e279_110, e279_111, e279_112, e279_113, e279_114, e279_118, e279_119, e279_122, e279_123, e279_124, e279_127, e279_128, e279_132, e279_133, e279_134, e279_136, e279_139, e279_142, e279_143, e279_144, e279_146, e279_148, e279_151, e279_153, e279_156, e279_158, e279_159, e279_162, e279_165, e279_168, e279_171, e279_172, m279, ↓reduceIte, qg_0, qg_1, qg_2, qg_3, qg_4, qg_5, qg_6, qg_7, qg_8, qg_9, qg_10, qg_11, qg_12, qg_13, not_true_eq_false, not_false_eq_true, Nat.reduceBEq, Bool.false_eq_true, ex1, ex3, ex4, exF, qfit_i, qfit_l, qfit_r, qfit_n, qfit_b0, qfit_b1, qcat_i, qcat_r, qcat_n, qcat_l, qroom_0, qroom_c, List.map_cons, List.map_nil, List.sum_cons, List.sum_nil, Nat.reduceAdd, Nat.reduceMul, Nat.reduceLT, Nat.reduceLeDiff, Nat.reduceEqDiff, Nat.reduceSub, decide_true, true_and, and_true, and_self, if_true, if_false, Option.toList_some, Option.toList_none, List.cons_append, List.nil_append, qsL, qlong, List.length_cons, List.length_nil, iN_L, vM1, vM2, exI, iN_add, iN_mul, iN_le, iN_lt, iN_eq, Nat.le_refl, qfN0, qfN1, bB_f, gM_1, rM_56, di]
      · have h1 := a1 j hj
        have h2 : ovZ (Qv j) (dmn bs i) p 1 ≠ 0 := fun e => hz ⟨j, hj, e⟩
        omega
end HOLDS

/-! ===== THE CLASS: cross, corner ===== -/
section XAXES
variable {d D : Nat} {h : qH} {R : qRes} {l : List pt4}
theorem tellX_app (D : Nat) (l a b : List pt4) : tellAll D l (a ++ b) = tellAll D (tellAll D l a) b := List.foldl_append
theorem range_add2 {f : Nat → pt4} (n : Nat) : (List.range (2 * (n + 1))).map f = (List.range (2 * n)).map f ++ [f (2 * n), f (2 * n + 1)] := by
  rw [show 2 * (n + 1) = 2 * n + 1 + 1 by omega, List.range_succ, List.range_succ, List.map_append, List.map_append, List.append_assoc]
  rfl
set_option maxRecDepth 100000 in
set_option maxHeartbeats 16000000 in
theorem x_shpCross (s : ShX h) (hD : 2 ≤ D ∧ D ≤ 4) (v : HtX h D l) (m : Int32) : ∃ h', (∀ R, qMC (d + 3) 21 [.ref 19, .int (iN 1), .int m] h R ↔ R = (none, h')) ∧ ChX [20] [(19, 1), (19, 2)] 0 h h' ∧ HtX h' D (tellAll D l ((List.range (2 * D)).map crsP)) := by
  have go : ∀ (w c : Nat) (g : qH), c + w = D → ChX [20] [(19, 1), (19, 2)] 0 h g → HtX g D (tellAll D l ((List.range (2 * c)).map crsP)) → ∃ h', (∀ R, qEv (d + 2) 4 qk_21 103 [some (.ref 19), some (.int (iN 1)), some (.int m), some (.int (iN c))] [] g R ↔ R = (none, h')) ∧ ChX [20] [(19, 1), (19, 2)] 0 h h' ∧ HtX h' D (tellAll D l ((List.range (2 * D)).map crsP)) := by
    intro w
    induction w with
    | zero =>
      intro c g hc cg vg
      have sg := cg.sh
      have dm := vg.dim
      have ec : c = D := by omega
      subst ec
      refine ⟨g, fun R => ?_, cg, vg⟩
      rw [e21_103]
      simp (disch := first | assumption | omega) only [e21_0, e21_1, e21_4, e21_5, e21_6, e21_7, e21_8, e21_9, e21_12, e21_13, e21_16, e21_17, e21_18, e21_19, e21_20, e21_21, e21_22, e21_23, e21_24, e21_25, e21_26, e21_27, e21_28, e21_29, e21_30, e21_31, e21_32, e21_33, e21_34, e21_35, e21_38, e21_41, e21_44, e21_47, e21_48, e21_49, e21_52, e21_53, e21_54, e21_55, e21_56, e21_59, e21_60, e21_61, e21_62, e21_63, e21_64, e21_65, e21_66, e21_67, e21_68, e21_69, e21_70, e21_71, e21_72, e21_73, e21_74, e21_75, e21_76, e21_79, e21_82, e21_85, e21_88, e21_89, e21_90, e21_93, e21_94, e21_95, e21_96, e21_97, e21_98, e21_101, e21_102, e21_104, e21_105, e21_108, e21_111, e21_112, e21_113, e21_114, e21_117, e21_118, e21_119, e21_122, e21_123, e21_124, e21_125, e21_128, e21_131, e21_134, m21, ↓reduceIte, qg_0, qg_1, qg_2, qg_3, qg_4, qg_5, qg_6, qg_7, qg_8, qg_9, qg_10, qg_11, qg_12, qg_13, not_true_eq_false, not_false_eq_true, Nat.reduceBEq, Bool.false_eq_true, ex1, ex3, ex4, exF, qfit_i, qfit_l, qfit_r, qfit_n, qfit_b0, qfit_b1, qcat_i, qcat_r, qcat_n, qcat_l, qroom_0, qroom_c, List.map_cons, List.map_nil, List.sum_cons, List.sum_nil, Nat.reduceAdd, Nat.reduceMul, Nat.reduceLT, Nat.reduceLeDiff, Nat.reduceEqDiff, Nat.reduceSub, decide_true, true_and, and_true, and_self, if_true, if_false, Option.toList_some, Option.toList_none, List.cons_append, List.nil_append, qsL, qlong, List.length_cons, List.length_nil, iN_L, exI, iN_add, iN_mul, iN_le, iN_lt, iN_eq, Nat.le_refl, qfN0, qfN1, uX_16, vX_16, uX_19, vX_19, uX_27, vX_27, uX_30, vX_30, uX_39, vX_39, uX_41, vX_41, uX_43, vX_43, uX_46, vX_46, uX_50, vX_50, uX_53, vX_53, gX_19_3, dm]
    | succ w ih =>
      intro c g hc cg vg
      have sg := cg.sh
      have dm := vg.dim
      obtain ⟨g1, r1, c1, v1⟩ := x_tellUnit (d := d) (a := c) (z := 1) sg (by omega) vg (by omega) ⟨by omega, by omega⟩
      have s1 := c1.sh
      obtain ⟨g2, r2, c2, v2⟩ := x_tellUnit (d := d) (a := c) (z := -1) s1 (by omega) v1 (by omega) ⟨by omega, by omega⟩
      have e0 : crsP (2 * c) = axP c 1 := by unfold crsP; rw [show 2 * c / 2 = c by omega, if_pos (by omega)]
      have e1 : crsP (2 * c + 1) = axP c (-1) := by unfold crsP; rw [show (2 * c + 1) / 2 = c by omega, if_neg (by omega)]
      have vt : HtX g2 D (tellAll D l ((List.range (2 * (c + 1))).map crsP)) := by
        rw [range_add2, tellX_app, e0, e1]; exact v2
      obtain ⟨h', r', c', v'⟩ := ih (c + 1) g2 (by omega) (cg.trans0 (c1.trans0 c2)) vt
      refine ⟨h', fun R => ?_, c', v'⟩
      have r1' : ∀ R, qMC (d + 2) 22 [.ref 19, .int (iN c), .int (iN 1)] g R ↔ R = (none, g1) := r1
      have r2' : ∀ R, qMC (d + 2) 22 [.ref 19, .int (iN c), .int (-iN 1)] g1 R ↔ R = (none, g2) := r2
      rw [← r' R, e21_103]
      simp (disch := first | assumption | omega) only [e21_0, e21_1, e21_4, e21_5, e21_6, e21_7, e21_8, e21_9, e21_12, e21_13, e21_16, e21_17, e21_18, e21_19, e21_20, e21_21, e21_22, e21_23, e21_24, e21_25, e21_26, e21_27, e21_28, e21_29, e21_30, e21_31, e21_32, e21_33, e21_34, e21_35, e21_38, e21_41, e21_44, e21_47, e21_48, e21_49, e21_52, e21_53, e21_54, e21_55, e21_56, e21_59, e21_60, e21_61, e21_62, e21_63, e21_64, e21_65, e21_66, e21_67, e21_68, e21_69, e21_70, e21_71, e21_72, e21_73, e21_74, e21_75, e21_76, e21_79, e21_82, e21_85, e21_88, e21_89, e21_90, e21_93, e21_94, e21_95, e21_96, e21_97, e21_98, e21_101, e21_102, e21_104, e21_105, e21_108, e21_111, e21_112, e21_113, e21_114, e21_117, e21_118, e21_119, e21_122, e21_123, e21_124, e21_125, e21_128, e21_131, e21_134, m21, ↓reduceIte, qg_0, qg_1, qg_2, qg_3, qg_4, qg_5, qg_6, qg_7, qg_8, qg_9, qg_10, qg_11, qg_12, qg_13, not_true_eq_false, not_false_eq_true, Nat.reduceBEq, Bool.false_eq_true, ex1, ex3, ex4, exF, qfit_i, qfit_l, qfit_r, qfit_n, qfit_b0, qfit_b1, qcat_i, qcat_r, qcat_n, qcat_l, qroom_0, qroom_c, List.map_cons, List.map_nil, List.sum_cons, List.sum_nil, Nat.reduceAdd, Nat.reduceMul, Nat.reduceLT, Nat.reduceLeDiff, Nat.reduceEqDiff, Nat.reduceSub, decide_true, true_and, and_true, and_self, if_true, if_false, Option.toList_some, Option.toList_none, List.cons_append, List.nil_append, qsL, qlong, List.length_cons, List.length_nil, iN_L, exI, iN_add, iN_mul, iN_le, iN_lt, iN_eq, Nat.le_refl, qfN0, qfN1, uX_16, vX_16, uX_19, vX_19, uX_27, vX_27, uX_30, vX_30, uX_39, vX_39, uX_41, vX_41, uX_43, vX_43, uX_46, vX_46, uX_50, vX_50, uX_53, vX_53, gX_19_3, dm, show ¬ D ≤ c by omega, r1', r2']
  obtain ⟨h', r', c', v'⟩ := go D 0 h (by omega) (ChX.refl s) v
  refine ⟨h', fun R => ?_, c', v'⟩
  rw [← r' R]
  simp (disch := first | assumption | omega) only [e21_0, e21_1, e21_4, e21_5, e21_6, e21_7, e21_8, e21_9, e21_12, e21_13, e21_16, e21_17, e21_18, e21_19, e21_20, e21_21, e21_22, e21_23, e21_24, e21_25, e21_26, e21_27, e21_28, e21_29, e21_30, e21_31, e21_32, e21_33, e21_34, e21_35, e21_38, e21_41, e21_44, e21_47, e21_48, e21_49, e21_52, e21_53, e21_54, e21_55, e21_56, e21_59, e21_60, e21_61, e21_62, e21_63, e21_64, e21_65, e21_66, e21_67, e21_68, e21_69, e21_70, e21_71, e21_72, e21_73, e21_74, e21_75, e21_76, e21_79, e21_82, e21_85, e21_88, e21_89, e21_90, e21_93, e21_94, e21_95, e21_96, e21_97, e21_98, e21_101, e21_102, e21_104, e21_105, e21_108, e21_111, e21_112, e21_113, e21_114, e21_117, e21_118, e21_119, e21_122, e21_123, e21_124, e21_125, e21_128, e21_131, e21_134, m21, ↓reduceIte, qg_0, qg_1, qg_2, qg_3, qg_4, qg_5, qg_6, qg_7, qg_8, qg_9, qg_10, qg_11, qg_12, qg_13, not_true_eq_false, not_false_eq_true, Nat.reduceBEq, Bool.false_eq_true, ex1, ex3, ex4, exF, qfit_i, qfit_l, qfit_r, qfit_n, qfit_b0, qfit_b1, qcat_i, qcat_r, qcat_n, qcat_l, qroom_0, qroom_c, List.map_cons, List.map_nil, List.sum_cons, List.sum_nil, Nat.reduceAdd, Nat.reduceMul, Nat.reduceLT, Nat.reduceLeDiff, Nat.reduceEqDiff, Nat.reduceSub, decide_true, true_and, and_true, and_self, if_true, if_false, Option.toList_some, Option.toList_none, List.cons_append, List.nil_append, qsL, qlong, List.length_cons, List.length_nil, iN_L, exI, iN_add, iN_mul, iN_le, iN_lt, iN_eq, Nat.le_refl, qfN0, qfN1, uX_16, vX_16, uX_19, vX_19, uX_27, vX_27, uX_30, vX_30, uX_39, vX_39, uX_41, vX_41, uX_43, vX_43, uX_46, vX_46, uX_50, vX_50, uX_53, vX_53, iN10]
set_option maxRecDepth 100000 in
set_option maxHeartbeats 16000000 in
theorem x_shpCorner (s : ShX h) (hD : 2 ≤ D ∧ D ≤ 4) (v : HtX h D l) (m : Int32) : ∃ h', (∀ R, qMC (d + 3) 21 [.ref 19, .int (iN 2), .int m] h R ↔ R = (none, h')) ∧ ChX [20] [(19, 1), (19, 2)] 0 h h' ∧ HtX h' D (tellAll D l (z4 :: (List.range D).map (fun k => axP k 1))) := by
  obtain ⟨l1, el1⟩ : ∃ l1, l1 = addP l (prj D z4) := ⟨_, rfl⟩
  have go : ∀ (w c : Nat) (g : qH), c + w = D → ChX [20] [(19, 1), (19, 2)] 0 h g → HtX g D (tellAll D l1 ((List.range c).map (fun k => axP k 1))) → ∃ h', (∀ R, qEv (d + 2) 4 qk_21 103 [some (.ref 19), some (.int (iN 2)), some (.int m), some (.int (iN c))] [] g R ↔ R = (none, h')) ∧ ChX [20] [(19, 1), (19, 2)] 0 h h' ∧ HtX h' D (tellAll D l1 ((List.range D).map (fun k => axP k 1))) := by
    intro w
    induction w with
    | zero =>
      intro c g hc cg vg
      have sg := cg.sh
      have dm := vg.dim
      have ec : c = D := by omega
      subst ec
      refine ⟨g, fun R => ?_, cg, vg⟩
      rw [e21_103]
      simp (disch := first | assumption | omega) only [e21_0, e21_1, e21_4, e21_5, e21_6, e21_7, e21_8, e21_9, e21_12, e21_13, e21_16, e21_17, e21_18, e21_19, e21_20, e21_21, e21_22, e21_23, e21_24, e21_25, e21_26, e21_27, e21_28, e21_29, e21_30, e21_31, e21_32, e21_33, e21_34, e21_35, e21_38, e21_41, e21_44, e21_47, e21_48, e21_49, e21_52, e21_53, e21_54, e21_55, e21_56, e21_59, e21_60, e21_61, e21_62, e21_63, e21_64, e21_65, e21_66, e21_67, e21_68, e21_69, e21_70, e21_71, e21_72, e21_73, e21_74, e21_75, e21_76, e21_79, e21_82, e21_85, e21_88, e21_89, e21_90, e21_93, e21_94, e21_95, e21_96, e21_97, e21_98, e21_101, e21_102, e21_104, e21_105, e21_108, e21_111, e21_112, e21_113, e21_114, e21_117, e21_118, e21_119, e21_122, e21_123, e21_124, e21_125, e21_128, e21_131, e21_134, m21, ↓reduceIte, qg_0, qg_1, qg_2, qg_3, qg_4, qg_5, qg_6, qg_7, qg_8, qg_9, qg_10, qg_11, qg_12, qg_13, not_true_eq_false, not_false_eq_true, Nat.reduceBEq, Bool.false_eq_true, ex1, ex3, ex4, exF, qfit_i, qfit_l, qfit_r, qfit_n, qfit_b0, qfit_b1, qcat_i, qcat_r, qcat_n, qcat_l, qroom_0, qroom_c, List.map_cons, List.map_nil, List.sum_cons, List.sum_nil, Nat.reduceAdd, Nat.reduceMul, Nat.reduceLT, Nat.reduceLeDiff, Nat.reduceEqDiff, Nat.reduceSub, decide_true, true_and, and_true, and_self, if_true, if_false, Option.toList_some, Option.toList_none, List.cons_append, List.nil_append, qsL, qlong, List.length_cons, List.length_nil, iN_L, exI, iN_add, iN_mul, iN_le, iN_lt, iN_eq, Nat.le_refl, qfN0, qfN1, uX_16, vX_16, uX_19, vX_19, uX_27, vX_27, uX_30, vX_30, uX_39, vX_39, uX_41, vX_41, uX_43, vX_43, uX_46, vX_46, uX_50, vX_50, uX_53, vX_53, gX_19_3, dm]
    | succ w ih =>
      intro c g hc cg vg
      have sg := cg.sh
      have dm := vg.dim
      obtain ⟨g1, r1, c1, v1⟩ := x_tellUnit (d := d) (a := c) (z := 1) sg (by omega) vg (by omega) ⟨by omega, by omega⟩
      have s1 := c1.sh
      have vt : HtX g1 D (tellAll D l1 ((List.range (c + 1)).map (fun k => axP k 1))) := by
        rw [List.range_succ, List.map_append, tellX_app]; exact v1
      obtain ⟨h', r', c', v'⟩ := ih (c + 1) g1 (by omega) (cg.trans0 c1) vt
      refine ⟨h', fun R => ?_, c', v'⟩
      have r1' : ∀ R, qMC (d + 2) 22 [.ref 19, .int (iN c), .int (iN 1)] g R ↔ R = (none, g1) := r1
      rw [← r' R, e21_103]
      simp (disch := first | assumption | omega) only [e21_0, e21_1, e21_4, e21_5, e21_6, e21_7, e21_8, e21_9, e21_12, e21_13, e21_16, e21_17, e21_18, e21_19, e21_20, e21_21, e21_22, e21_23, e21_24, e21_25, e21_26, e21_27, e21_28, e21_29, e21_30, e21_31, e21_32, e21_33, e21_34, e21_35, e21_38, e21_41, e21_44, e21_47, e21_48, e21_49, e21_52, e21_53, e21_54, e21_55, e21_56, e21_59, e21_60, e21_61, e21_62, e21_63, e21_64, e21_65, e21_66, e21_67, e21_68, e21_69, e21_70, e21_71, e21_72, e21_73, e21_74, e21_75, e21_76, e21_79, e21_82, e21_85, e21_88, e21_89, e21_90, e21_93, e21_94, e21_95, e21_96, e21_97, e21_98, e21_101, e21_102, e21_104, e21_105, e21_108, e21_111, e21_112, e21_113, e21_114, e21_117, e21_118, e21_119, e21_122, e21_123, e21_124, e21_125, e21_128, e21_131, e21_134, m21, ↓reduceIte, qg_0, qg_1, qg_2, qg_3, qg_4, qg_5, qg_6, qg_7, qg_8, qg_9, qg_10, qg_11, qg_12, qg_13, not_true_eq_false, not_false_eq_true, Nat.reduceBEq, Bool.false_eq_true, ex1, ex3, ex4, exF, qfit_i, qfit_l, qfit_r, qfit_n, qfit_b0, qfit_b1, qcat_i, qcat_r, qcat_n, qcat_l, qroom_0, qroom_c, List.map_cons, List.map_nil, List.sum_cons, List.sum_nil, Nat.reduceAdd, Nat.reduceMul, Nat.reduceLT, Nat.reduceLeDiff, Nat.reduceEqDiff, Nat.reduceSub, decide_true, true_and, and_true, and_self, if_true, if_false, Option.toList_some, Option.toList_none, List.cons_append, List.nil_append, qsL, qlong, List.length_cons, List.length_nil, iN_L, exI, iN_add, iN_mul, iN_le, iN_lt, iN_eq, Nat.le_refl, qfN0, qfN1, uX_16, vX_16, uX_19, vX_19, uX_27, vX_27, uX_30, vX_30, uX_39, vX_39, uX_41, vX_41, uX_43, vX_43, uX_46, vX_46, uX_50, vX_50, uX_53, vX_53, gX_19_3, dm, show ¬ D ≤ c by omega, r1']
  have b0 : iB 0 := by unfold iB; omega
  obtain ⟨g0, r0, c0, v0⟩ := x_tell (d := d + 1) (q := z4) s (by omega) v (fun k hk => by
    match k, hk with
    | 0, _ => exact b0
    | 1, _ => exact b0
    | 2, _ => exact b0
    | 3, _ => exact b0)
  rw [← el1] at v0
  obtain ⟨h', r', c', v'⟩ := go D 0 g0 (by omega) c0 v0
  refine ⟨h', fun R => ?_, c', by rw [show tellAll D l (z4 :: (List.range D).map (fun k => axP k 1)) = tellAll D l1 ((List.range D).map (fun k => axP k 1)) by rw [el1]; rfl]; exact v'⟩
  have r0' : ∀ R, qMC (d + 2) 14 [.ref 19, .int (iN 0), .int (iN 0), .int (iN 0), .int (iN 0)] h R ↔ R = (none, g0) := r0
  rw [← r' R]
  simp (disch := first | assumption | omega) only [e21_0, e21_1, e21_4, e21_5, e21_6, e21_7, e21_8, e21_9, e21_12, e21_13, e21_16, e21_17, e21_18, e21_19, e21_20, e21_21, e21_22, e21_23, e21_24, e21_25, e21_26, e21_27, e21_28, e21_29, e21_30, e21_31, e21_32, e21_33, e21_34, e21_35, e21_38, e21_41, e21_44, e21_47, e21_48, e21_49, e21_52, e21_53, e21_54, e21_55, e21_56, e21_59, e21_60, e21_61, e21_62, e21_63, e21_64, e21_65, e21_66, e21_67, e21_68, e21_69, e21_70, e21_71, e21_72, e21_73, e21_74, e21_75, e21_76, e21_79, e21_82, e21_85, e21_88, e21_89, e21_90, e21_93, e21_94, e21_95, e21_96, e21_97, e21_98, e21_101, e21_102, e21_104, e21_105, e21_108, e21_111, e21_112, e21_113, e21_114, e21_117, e21_118, e21_119, e21_122, e21_123, e21_124, e21_125, e21_128, e21_131, e21_134, m21, ↓reduceIte, qg_0, qg_1, qg_2, qg_3, qg_4, qg_5, qg_6, qg_7, qg_8, qg_9, qg_10, qg_11, qg_12, qg_13, not_true_eq_false, not_false_eq_true, Nat.reduceBEq, Bool.false_eq_true, ex1, ex3, ex4, exF, qfit_i, qfit_l, qfit_r, qfit_n, qfit_b0, qfit_b1, qcat_i, qcat_r, qcat_n, qcat_l, qroom_0, qroom_c, List.map_cons, List.map_nil, List.sum_cons, List.sum_nil, Nat.reduceAdd, Nat.reduceMul, Nat.reduceLT, Nat.reduceLeDiff, Nat.reduceEqDiff, Nat.reduceSub, decide_true, true_and, and_true, and_self, if_true, if_false, Option.toList_some, Option.toList_none, List.cons_append, List.nil_append, qsL, qlong, List.length_cons, List.length_nil, iN_L, exI, iN_add, iN_mul, iN_le, iN_lt, iN_eq, Nat.le_refl, qfN0, qfN1, uX_16, vX_16, uX_19, vX_19, uX_27, vX_27, uX_30, vX_30, uX_39, vX_39, uX_41, vX_41, uX_43, vX_43, uX_46, vX_46, uX_50, vX_50, uX_53, vX_53, iN10, r0']
end XAXES

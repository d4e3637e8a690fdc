/-! ===== THE CLASS: isFlat, pointCount ===== -/
section XFLAT
variable {d D : Nat} {h : qH} {R : qRes} {bs : List bdy} {sa : Nat → Nat}
theorem mask_orr {f g : Nat → Bool} {n : Nat} : mask f n ||| mask g n = mask (fun c => f c || g c) n := by
  apply Nat.eq_of_testBit_eq
  intro k
  rw [Nat.testBit_or, mask_bit, mask_bit, mask_bit]
  cases decide (k < n) <;> simp
theorem mask_0 {f : Nat → Bool} {n : Nat} : mask f n = 0 ↔ ∀ c, c < n → f c = false := by
  constructor
  · intro z c hc
    have := mask_bit f n c
    rw [z, Nat.zero_testBit, decide_eq_true hc, Bool.true_and] at this
    exact this.symm
  · intro z
    apply Nat.eq_of_testBit_eq
    intro c
    rw [mask_bit, Nat.zero_testBit]
    by_cases hc : c < n
    · rw [z c hc, Bool.and_false]
    · rw [decide_eq_false hc, Bool.false_and]
/-- the cut is flat -/
noncomputable def flP (bs : List bdy) (i : Nat) (lv : Nat → Int) (w : Nat) : Prop := if w = 4 then ∀ c, c < (cnr bs i).length → ¬ lv c < 0 else ¬ ((∃ c, c < (cnr bs i).length ∧ lv c < 0) ∧ ∃ c, c < (cnr bs i).length ∧ 0 < lv c) ∧ mask (fun c => decide (lv c = 0)) (cnr bs i).length ∉ cel bs i (dmn bs i - 1)
set_option maxRecDepth 100000 in
set_option maxHeartbeats 16000000 in
theorem x_isFlat {i w : Nat} {lv : Nat → Int} (s : ShX h) (X : BsX h bs sa) (hi' : i < bs.length) (v : SeX h bs sa i lv w) : qMC (d + 2) 90 [.ref 27] h R ↔ R = (some (.int (bB (tB (flP bs i lv w)))), h) := by
  obtain ⟨p, q, w', e, B, S, P⟩ := X.at hi'
  obtain ⟨⟨u16, ult, uF⟩, g0, g1, g2, g3, g4, g5, g6⟩ := S.obj
  have n16 := P.2.1.2
  have hD := P.1
  have fr := v.from s
  have v2 := v.2.1
  have w4 := v.2.2.1
  obtain ⟨n, en⟩ : ∃ n, n = (cnr bs i).length := ⟨_, rfl⟩
  obtain ⟨BL, eB⟩ : ∃ BL : Nat → Nat, BL = mask fun c => decide (lv c < 0) := ⟨_, rfl⟩
  obtain ⟨ON, eO⟩ : ∃ ON : Nat → Nat, ON = mask fun c => decide (lv c = 0) := ⟨_, rfl⟩
  rw [← en] at n16 g1
  have r0 : qMC (d + 2) 90 [.ref 27] h R ↔ qEv (d + 1) 3 qk_90 6 [some (.ref 27), some (.int (iN (BL 0))), some (.int (iN (ON 0))), some (.int (iN 0)), none] [] h R := by
    rw [show BL 0 = 0 by rw [eB]; rfl, show ON 0 = 0 by rw [eO]; rfl]
    simp (disch := first | assumption | omega) only [e90_0, e90_1, e90_2, e90_3, e90_4, e90_5, e90_7, e90_8, e90_11, e90_14, e90_17, e90_18, e90_19, e90_22, e90_23, e90_24, e90_27, e90_28, e90_29, e90_30, e90_33, e90_34, e90_35, e90_36, e90_37, e90_38, e90_41, e90_42, e90_43, e90_46, e90_47, e90_48, e90_49, e90_52, e90_53, e90_54, e90_55, e90_58, e90_61, e90_62, e90_65, e90_66, e90_69, e90_70, e90_73, e90_74, e90_77, e90_78, e90_79, e90_80, e90_83, e90_84, e90_85, e90_86, e90_87, e90_90, e90_93, e90_96, e90_97, e90_98, e90_99, e90_102, e90_105, e90_106, e90_107, e90_109, e90_111, e90_112, e90_113, e90_116, e90_117, e90_119, e90_120, e90_121, e90_124, e90_125, e90_126, e90_129, e90_132, e90_133, m90, ↓reduceIte, qg_0, qg_1, qg_2, qg_3, qg_4, qg_5, qg_6, qg_7, qg_8, qg_9, qg_10, qg_11, qg_12, qg_13, not_true_eq_false, not_false_eq_true, Nat.reduceBEq, Bool.false_eq_true, ex1, ex3, ex4, exF, qfit_i, qfit_l, qfit_r, qfit_n, qfit_b0, qfit_b1, qcat_i, qcat_r, qcat_n, qcat_l, qroom_0, qroom_c, List.map_cons, List.map_nil, List.sum_cons, List.sum_nil, Nat.reduceAdd, Nat.reduceMul, Nat.reduceLT, Nat.reduceLeDiff, Nat.reduceEqDiff, Nat.reduceSub, decide_true, true_and, and_true, and_self, if_true, if_false, Option.toList_some, Option.toList_none, List.cons_append, List.nil_append, qsL, qlong, List.length_cons, List.length_nil, iN_L, exI, iN_add, iN_mul, iN_le, iN_lt, iN_eq, Nat.le_refl, qfN0, qfN1, uX_16, vX_16, uX_19, vX_19, uX_27, vX_27, uX_30, vX_30, uX_39, vX_39, uX_41, vX_41, uX_43, vX_43, uX_46, vX_46, uX_50, vX_50, uX_53, vX_53, uX_27, vX_27]
  have r1 : qEv (d + 1) 3 qk_90 6 [some (.ref 27), some (.int (iN (BL 0))), some (.int (iN (ON 0))), some (.int (iN 0)), none] [] h R ↔ qEv (d + 1) 3 qk_90 61 [some (.ref 27), some (.int (iN (BL n))), some (.int (iN (ON n))), some (.int (iN n)), none] [] h R := by
    refine Iff.trans (loop_up (n := n) (L := fun c => [some (.ref 27), some (.int (iN (BL c))), some (.int (iN (ON c))), some (.int (iN c)), none]) (H := fun _ => h) ?_) ?_
    · intro c hc
      try dsimp only
      have lr := v.lvl s (by rw [← en]; exact n16) (show c < (cnr bs i).length by omega)
      obtain ⟨l0, l1, l2, l3, l4⟩ := lv_0 (v.2.2.2 c (by omega)).2
      have sh := iN_shl1 c (by omega)
      have b1 : BL (c + 1) = BL c ||| (if lv c < 0 then 2 ^ c else 0) := by rw [eB, mask]; congr 1; by_cases z : lv c < 0 <;> simp [z]
      have b2 : ON (c + 1) = ON c ||| (if lv c = 0 then 2 ^ c else 0) := by rw [eO, mask]; congr 1; by_cases z : lv c = 0 <;> simp [z]
      rw [e90_6, b1, b2]
      rcases Int.lt_trichotomy (lv c) 0 with z | z | z
      · rw [if_pos z, if_neg (show ¬ lv c = 0 by omega)]
        simp (disch := first | assumption | omega) only [e90_0, e90_1, e90_2, e90_3, e90_4, e90_5, e90_7, e90_8, e90_11, e90_14, e90_17, e90_18, e90_19, e90_22, e90_23, e90_24, e90_27, e90_28, e90_29, e90_30, e90_33, e90_34, e90_35, e90_36, e90_37, e90_38, e90_41, e90_42, e90_43, e90_46, e90_47, e90_48, e90_49, e90_52, e90_53, e90_54, e90_55, e90_58, e90_62, e90_65, e90_66, e90_69, e90_70, e90_73, e90_74, e90_77, e90_78, e90_79, e90_80, e90_83, e90_84, e90_85, e90_86, e90_87, e90_90, e90_93, e90_96, e90_97, e90_98, e90_99, e90_102, e90_105, e90_106, e90_107, e90_109, e90_111, e90_112, e90_113, e90_116, e90_117, e90_119, e90_120, e90_121, e90_124, e90_125, e90_126, e90_129, e90_132, e90_133, m90, ↓reduceIte, qg_0, qg_1, qg_2, qg_3, qg_4, qg_5, qg_6, qg_7, qg_8, qg_9, qg_10, qg_11, qg_12, qg_13, not_true_eq_false, not_false_eq_true, Nat.reduceBEq, Bool.false_eq_true, ex1, ex3, ex4, exF, qfit_i, qfit_l, qfit_r, qfit_n, qfit_b0, qfit_b1, qcat_i, qcat_r, qcat_n, qcat_l, qroom_0, qroom_c, List.map_cons, List.map_nil, List.sum_cons, List.sum_nil, Nat.reduceAdd, Nat.reduceMul, Nat.reduceLT, Nat.reduceLeDiff, Nat.reduceEqDiff, Nat.reduceSub, decide_true, true_and, and_true, and_self, if_true, if_false, Option.toList_some, Option.toList_none, List.cons_append, List.nil_append, qsL, qlong, List.length_cons, List.length_nil, iN_L, exI, iN_add, iN_mul, iN_le, iN_lt, iN_eq, Nat.le_refl, qfN0, qfN1, uX_16, vX_16, uX_19, vX_19, uX_27, vX_27, uX_30, vX_30, uX_39, vX_39, uX_41, vX_41, uX_43, vX_43, uX_46, vX_46, uX_50, vX_50, uX_53, vX_53, uX_27, vX_27, fr, u16, ult, uF, g0, g1, g2, g3, g4, g5, g6, show ¬ n ≤ c by omega, gX_27_1, lr, eq_false (fun y => (show ¬ 0 ≤ lv c by omega) (l4.mp y)), eq_false (fun y => (show ¬ lv c = 0 by omega) (l2.mp y)), sh, iN_or]
      · rw [if_neg (show ¬ lv c < 0 by omega), if_pos z]
        simp (disch := first | assumption | omega) only [e90_0, e90_1, e90_2, e90_3, e90_4, e90_5, e90_7, e90_8, e90_11, e90_14, e90_17, e90_18, e90_19, e90_22, e90_23, e90_24, e90_27, e90_28, e90_29, e90_30, e90_33, e90_34, e90_35, e90_36, e90_37, e90_38, e90_41, e90_42, e90_43, e90_46, e90_47, e90_48, e90_49, e90_52, e90_53, e90_54, e90_55, e90_58, e90_62, e90_65, e90_66, e90_69, e90_70, e90_73, e90_74, e90_77, e90_78, e90_79, e90_80, e90_83, e90_84, e90_85, e90_86, e90_87, e90_90, e90_93, e90_96, e90_97, e90_98, e90_99, e90_102, e90_105, e90_106, e90_107, e90_109, e90_111, e90_112, e90_113, e90_116, e90_117, e90_119, e90_120, e90_121, e90_124, e90_125, e90_126, e90_129, e90_132, e90_133, m90, ↓reduceIte, qg_0, qg_1, qg_2, qg_3, qg_4, qg_5, qg_6, qg_7, qg_8, qg_9, qg_10, qg_11, qg_12, qg_13, not_true_eq_false, not_false_eq_true, Nat.reduceBEq, Bool.false_eq_true, ex1, ex3, ex4, exF, qfit_i, qfit_l, qfit_r, qfit_n, qfit_b0, qfit_b1, qcat_i, qcat_r, qcat_n, qcat_l, qroom_0, qroom_c, List.map_cons, List.map_nil, List.sum_cons, List.sum_nil, Nat.reduceAdd, Nat.reduceMul, Nat.reduceLT, Nat.reduceLeDiff, Nat.reduceEqDiff, Nat.reduceSub, decide_true, true_and, and_true, and_self, if_true, if_false, Option.toList_some, Option.toList_none, List.cons_append, List.nil_append, qsL, qlong, List.length_cons, List.length_nil, iN_L, exI, iN_add, iN_mul, iN_le, iN_lt, iN_eq, Nat.le_refl, qfN0, qfN1, uX_16, vX_16, uX_19, vX_19, uX_27, vX_27, uX_30, vX_30, uX_39, vX_39, uX_41, vX_41, uX_43, vX_43, uX_46, vX_46, uX_50, vX_50, uX_53, vX_53, uX_27, vX_27, fr, u16, ult, uF, g0, g1, g2, g3, g4, g5, g6, show ¬ n ≤ c by omega, gX_27_1, lr, eq_true (l4.mpr (show 0 ≤ lv c by omega)), eq_true (l2.mpr z), sh, iN_or]
      · rw [if_neg (show ¬ lv c < 0 by omega), if_neg (show ¬ lv c = 0 by omega)]
        simp (disch := first | assumption | omega) only [e90_0, e90_1, e90_2, e90_3, e90_4, e90_5, e90_7, e90_8, e90_11, e90_14, e90_17, e90_18, e90_19, e90_22, e90_23, e90_24, e90_27, e90_28, e90_29, e90_30, e90_33, e90_34, e90_35, e90_36, e90_37, e90_38, e90_41, e90_42, e90_43, e90_46, e90_47, e90_48, e90_49, e90_52, e90_53, e90_54, e90_55, e90_58, e90_62, e90_65, e90_66, e90_69, e90_70, e90_73, e90_74, e90_77, e90_78, e90_79, e90_80, e90_83, e90_84, e90_85, e90_86, e90_87, e90_90, e90_93, e90_96, e90_97, e90_98, e90_99, e90_102, e90_105, e90_106, e90_107, e90_109, e90_111, e90_112, e90_113, e90_116, e90_117, e90_119, e90_120, e90_121, e90_124, e90_125, e90_126, e90_129, e90_132, e90_133, m90, ↓reduceIte, qg_0, qg_1, qg_2, qg_3, qg_4, qg_5, qg_6, qg_7, qg_8, qg_9, qg_10, qg_11, qg_12, qg_13, not_true_eq_false, not_false_eq_true, Nat.reduceBEq, Bool.false_eq_true, ex1, ex3, ex4, exF, qfit_i, qfit_l, qfit_r, qfit_n, qfit_b0, qfit_b1, qcat_i, qcat_r, qcat_n, qcat_l, qroom_0, qroom_c, List.map_cons, List.map_nil, List.sum_cons, List.sum_nil, Nat.reduceAdd, Nat.reduceMul, Nat.reduceLT, Nat.reduceLeDiff, Nat.reduceEqDiff, Nat.reduceSub, decide_true, true_and, and_true, and_self, if_true, if_false, Option.toList_some, Option.toList_none, List.cons_append, List.nil_append, qsL, qlong, List.length_cons, List.length_nil, iN_L, exI, iN_add, iN_mul, iN_le, iN_lt, iN_eq, Nat.le_refl, qfN0, qfN1, uX_16, vX_16, uX_19, vX_19, uX_27, vX_27, uX_30, vX_30, uX_39, vX_39, uX_41, vX_41, uX_43, vX_43, uX_46, vX_46, uX_50, vX_50, uX_53, vX_53, uX_27, vX_27, fr, u16, ult, uF, g0, g1, g2, g3, g4, g5, g6, show ¬ n ≤ c by omega, gX_27_1, lr, eq_true (l4.mpr (show 0 ≤ lv c by omega)), eq_false (fun y => (show ¬ lv c = 0 by omega) (l2.mp y)), sh, iN_or]
    · try dsimp only
      rw [e90_6]
      simp (disch := first | assumption | omega) only [e90_0, e90_1, e90_2, e90_3, e90_4, e90_5, e90_7, e90_8, e90_11, e90_14, e90_17, e90_18, e90_19, e90_22, e90_23, e90_24, e90_27, e90_28, e90_29, e90_30, e90_33, e90_34, e90_35, e90_36, e90_37, e90_38, e90_41, e90_42, e90_43, e90_46, e90_47, e90_48, e90_49, e90_52, e90_53, e90_54, e90_55, e90_58, e90_62, e90_65, e90_66, e90_69, e90_70, e90_73, e90_74, e90_77, e90_78, e90_79, e90_80, e90_83, e90_84, e90_85, e90_86, e90_87, e90_90, e90_93, e90_96, e90_97, e90_98, e90_99, e90_102, e90_105, e90_106, e90_107, e90_109, e90_111, e90_112, e90_113, e90_116, e90_117, e90_119, e90_120, e90_121, e90_124, e90_125, e90_126, e90_129, e90_132, e90_133, m90, ↓reduceIte, qg_0, qg_1, qg_2, qg_3, qg_4, qg_5, qg_6, qg_7, qg_8, qg_9, qg_10, qg_11, qg_12, qg_13, not_true_eq_false, not_false_eq_true, Nat.reduceBEq, Bool.false_eq_true, ex1, ex3, ex4, exF, qfit_i, qfit_l, qfit_r, qfit_n, qfit_b0, qfit_b1, qcat_i, qcat_r, qcat_n, qcat_l, qroom_0, qroom_c, List.map_cons, List.map_nil, List.sum_cons, List.sum_nil, Nat.reduceAdd, Nat.reduceMul, Nat.reduceLT, Nat.reduceLeDiff, Nat.reduceEqDiff, Nat.reduceSub, decide_true, true_and, and_true, and_self, if_true, if_false, Option.toList_some, Option.toList_none, List.cons_append, List.nil_append, qsL, qlong, List.length_cons, List.length_nil, iN_L, exI, iN_add, iN_mul, iN_le, iN_lt, iN_eq, Nat.le_refl, qfN0, qfN1, uX_16, vX_16, uX_19, vX_19, uX_27, vX_27, uX_30, vX_30, uX_39, vX_39, uX_41, vX_41, uX_43, vX_43, uX_46, vX_46, uX_50, vX_50, uX_53, vX_53, uX_27, vX_27, fr, u16, ult, uF, g0, g1, g2, g3, g4, g5, g6]
  rw [r0, r1]
  have BLn : BL n < 65536 := by rw [eB]; exact mask_16 n16
  have ONn : ON n < 65536 := by rw [eO]; exact mask_16 n16
  have B0 : BL n = 0 ↔ ∀ c, c < n → ¬ lv c < 0 := by
    rw [eB, mask_0]
    exact ⟨fun z c hc => of_decide_eq_false (z c hc), fun z c hc => decide_eq_false (z c hc)⟩
  unfold flP
  rw [← en, ← eO]
  by_cases z4 : w = 4
  · rw [if_pos z4] at v2
    rw [if_pos z4]
    by_cases z : BL n = 0
    · rw [tB_t (B0.mp z), bN_t]
      rw [e90_61]
      simp (disch := first | assumption | omega) only [e90_0, e90_1, e90_2, e90_3, e90_4, e90_5, e90_7, e90_8, e90_11, e90_14, e90_17, e90_18, e90_19, e90_22, e90_23, e90_24, e90_27, e90_28, e90_29, e90_30, e90_33, e90_34, e90_35, e90_36, e90_37, e90_38, e90_41, e90_42, e90_43, e90_46, e90_47, e90_48, e90_49, e90_52, e90_53, e90_54, e90_55, e90_58, e90_62, e90_65, e90_66, e90_69, e90_70, e90_73, e90_74, e90_77, e90_78, e90_79, e90_80, e90_83, e90_84, e90_85, e90_86, e90_87, e90_90, e90_93, e90_96, e90_97, e90_98, e90_99, e90_102, e90_105, e90_106, e90_107, e90_109, e90_111, e90_112, e90_113, e90_116, e90_117, e90_119, e90_120, e90_121, e90_124, e90_125, e90_126, e90_129, e90_132, e90_133, m90, ↓reduceIte, qg_0, qg_1, qg_2, qg_3, qg_4, qg_5, qg_6, qg_7, qg_8, qg_9, qg_10, qg_11, qg_12, qg_13, not_true_eq_false, not_false_eq_true, Nat.reduceBEq, Bool.false_eq_true, ex1, ex3, ex4, exF, qfit_i, qfit_l, qfit_r, qfit_n, qfit_b0, qfit_b1, qcat_i, qcat_r, qcat_n, qcat_l, qroom_0, qroom_c, List.map_cons, List.map_nil, List.sum_cons, List.sum_nil, Nat.reduceAdd, Nat.reduceMul, Nat.reduceLT, Nat.reduceLeDiff, Nat.reduceEqDiff, Nat.reduceSub, decide_true, true_and, and_true, and_self, if_true, if_false, Option.toList_some, Option.toList_none, List.cons_append, List.nil_append, qsL, qlong, List.length_cons, List.length_nil, iN_L, exI, iN_add, iN_mul, iN_le, iN_lt, iN_eq, Nat.le_refl, qfN0, qfN1, uX_16, vX_16, uX_19, vX_19, uX_27, vX_27, uX_30, vX_30, uX_39, vX_39, uX_41, vX_41, uX_43, vX_43, uX_46, vX_46, uX_50, vX_50, uX_53, vX_53, uX_27, vX_27, gX_27_2, v2, z]
    · rw [tB_f (fun y => z (B0.mpr y)), bN_f]
      rw [e90_61]
      simp (disch := first | assumption | omega) only [e90_0, e90_1, e90_2, e90_3, e90_4, e90_5, e90_7, e90_8, e90_11, e90_14, e90_17, e90_18, e90_19, e90_22, e90_23, e90_24, e90_27, e90_28, e90_29, e90_30, e90_33, e90_34, e90_35, e90_36, e90_37, e90_38, e90_41, e90_42, e90_43, e90_46, e90_47, e90_48, e90_49, e90_52, e90_53, e90_54, e90_55, e90_58, e90_62, e90_65, e90_66, e90_69, e90_70, e90_73, e90_74, e90_77, e90_78, e90_79, e90_80, e90_83, e90_84, e90_85, e90_86, e90_87, e90_90, e90_93, e90_96, e90_97, e90_98, e90_99, e90_102, e90_105, e90_106, e90_107, e90_109, e90_111, e90_112, e90_113, e90_116, e90_117, e90_119, e90_120, e90_121, e90_124, e90_125, e90_126, e90_129, e90_132, e90_133, m90, ↓reduceIte, qg_0, qg_1, qg_2, qg_3, qg_4, qg_5, qg_6, qg_7, qg_8, qg_9, qg_10, qg_11, qg_12, qg_13, not_true_eq_false, not_false_eq_true, Nat.reduceBEq, Bool.false_eq_true, ex1, ex3, ex4, exF, qfit_i, qfit_l, qfit_r, qfit_n, qfit_b0, qfit_b1, qcat_i, qcat_r, qcat_n, qcat_l, qroom_0, qroom_c, List.map_cons, List.map_nil, List.sum_cons, List.sum_nil, Nat.reduceAdd, Nat.reduceMul, Nat.reduceLT, Nat.reduceLeDiff, Nat.reduceEqDiff, Nat.reduceSub, decide_true, true_and, and_true, and_self, if_true, if_false, Option.toList_some, Option.toList_none, List.cons_append, List.nil_append, qsL, qlong, List.length_cons, List.length_nil, iN_L, exI, iN_add, iN_mul, iN_le, iN_lt, iN_eq, Nat.le_refl, qfN0, qfN1, uX_16, vX_16, uX_19, vX_19, uX_27, vX_27, uX_30, vX_30, uX_39, vX_39, uX_41, vX_41, uX_43, vX_43, uX_46, vX_46, uX_50, vX_50, uX_53, vX_53, uX_27, vX_27, gX_27_2, v2, z]
  · rw [if_neg z4] at v2
    rw [if_neg z4]
    have nw : ¬ iN w = -iN 1 := fun z => by
      have : iN w < iN 0 := by rw [z]; decide
      rw [iN_lt (by omega) (by omega)] at this; omega
    have ev : ∀ R, qMC (d + 1) 103 [.ref (sa i)] h R ↔ R = (some (.int (iN (2 ^ n - 1))), h) := fun R => by
      have := x_every (d := d) (R := R) S (by rw [← en]; exact n16)
      rw [← en] at this; exact this
    have p2 : 2 ^ n ≤ 65536 := Nat.pow_le_pow_right (show 0 < 2 by decide) n16
    have OR : BL n ||| ON n < 65536 := Nat.or_lt_two_pow (n := 16) BLn ONn
    have A0 : BL n ||| ON n = 2 ^ n - 1 ↔ ¬ ∃ c, c < n ∧ 0 < lv c := by
      rw [eB, eO, mask_orr, mask_full]
      constructor
      · rintro z ⟨c, hc, y⟩
        have := z c hc
        rw [Bool.or_eq_true, decide_eq_true_eq, decide_eq_true_eq] at this
        omega
      · intro z c hc
        rw [Bool.or_eq_true, decide_eq_true_eq, decide_eq_true_eq]
        have : ¬ 0 < lv c := fun y => z ⟨c, hc, y⟩
        omega
    have E0 : BL n ≠ 0 ↔ ∃ c, c < n ∧ lv c < 0 := by
      rw [Ne, B0]
      exact ⟨fun z => Classical.byContradiction fun y => z fun c hc w => y ⟨c, hc, w⟩, fun ⟨c, hc, y⟩ z => z c hc y⟩
    obtain ⟨b8, pb⟩ := P.2.2.2.2.1 (dmn bs i - 1) (by omega)
    have fs : ∀ R, qMC (d + 1) 107 [.ref (sa i)] h R ↔ R = (some (.ref (B (dmn bs i - 1))), h) := fun R => x_facetSets S hD
    have r2 := S.cl (K := dmn bs i - 1) (by omega)
    by_cases both : (∃ c, c < n ∧ lv c < 0) ∧ ∃ c, c < n ∧ 0 < lv c
    · rw [tB_f (fun z => z.1 both), bN_f]
      have q1 : ¬ BL n = 0 := E0.mpr both.1
      have q2 : ¬ BL n ||| ON n = 2 ^ n - 1 := fun z => A0.mp z both.2
      rw [e90_61]
      simp (disch := first | assumption | omega) only [e90_0, e90_1, e90_2, e90_3, e90_4, e90_5, e90_7, e90_8, e90_11, e90_14, e90_17, e90_18, e90_19, e90_22, e90_23, e90_24, e90_27, e90_28, e90_29, e90_30, e90_33, e90_34, e90_35, e90_36, e90_37, e90_38, e90_41, e90_42, e90_43, e90_46, e90_47, e90_48, e90_49, e90_52, e90_53, e90_54, e90_55, e90_58, e90_62, e90_65, e90_66, e90_69, e90_70, e90_73, e90_74, e90_77, e90_78, e90_79, e90_80, e90_83, e90_84, e90_85, e90_86, e90_87, e90_90, e90_93, e90_96, e90_97, e90_98, e90_99, e90_102, e90_105, e90_106, e90_107, e90_109, e90_111, e90_112, e90_113, e90_116, e90_117, e90_119, e90_120, e90_121, e90_124, e90_125, e90_126, e90_129, e90_132, e90_133, m90, ↓reduceIte, qg_0, qg_1, qg_2, qg_3, qg_4, qg_5, qg_6, qg_7, qg_8, qg_9, qg_10, qg_11, qg_12, qg_13, not_true_eq_false, not_false_eq_true, Nat.reduceBEq, Bool.false_eq_true, ex1, ex3, ex4, exF, qfit_i, qfit_l, qfit_r, qfit_n, qfit_b0, qfit_b1, qcat_i, qcat_r, qcat_n, qcat_l, qroom_0, qroom_c, List.map_cons, List.map_nil, List.sum_cons, List.sum_nil, Nat.reduceAdd, Nat.reduceMul, Nat.reduceLT, Nat.reduceLeDiff, Nat.reduceEqDiff, Nat.reduceSub, decide_true, true_and, and_true, and_self, if_true, if_false, Option.toList_some, Option.toList_none, List.cons_append, List.nil_append, qsL, qlong, List.length_cons, List.length_nil, iN_L, exI, iN_add, iN_mul, iN_le, iN_lt, iN_eq, Nat.le_refl, qfN0, qfN1, uX_16, vX_16, uX_19, vX_19, uX_27, vX_27, uX_30, vX_30, uX_39, vX_39, uX_41, vX_41, uX_43, vX_43, uX_46, vX_46, uX_50, vX_50, uX_53, vX_53, uX_27, vX_27, gX_27_2, v2, nw, q1, iN_or, fr, u16, ult, uF, g0, g1, g2, g3, g4, g5, g6, ev, q2]
    · have to : qEv (d + 1) 3 qk_90 61 [some (.ref 27), some (.int (iN (BL n))), some (.int (iN (ON n))), some (.int (iN n)), none] [] h R ↔ qEv (d + 1) 3 qk_90 109 [some (.ref 27), some (.int (iN (BL n))), some (.int (iN (ON n))), some (.ref (B (dmn bs i - 1))), some (.int (iN 0))] [] h R := by
        by_cases q1 : BL n = 0
        · rw [e90_61]
          simp (disch := first | assumption | omega) only [e90_0, e90_1, e90_2, e90_3, e90_4, e90_5, e90_7, e90_8, e90_11, e90_14, e90_17, e90_18, e90_19, e90_22, e90_23, e90_24, e90_27, e90_28, e90_29, e90_30, e90_33, e90_34, e90_35, e90_36, e90_37, e90_38, e90_41, e90_42, e90_43, e90_46, e90_47, e90_48, e90_49, e90_52, e90_53, e90_54, e90_55, e90_58, e90_62, e90_65, e90_66, e90_69, e90_70, e90_73, e90_74, e90_77, e90_78, e90_79, e90_80, e90_83, e90_84, e90_85, e90_86, e90_87, e90_90, e90_93, e90_96, e90_97, e90_98, e90_99, e90_102, e90_105, e90_106, e90_107, e90_111, e90_112, e90_113, e90_116, e90_117, e90_119, e90_120, e90_121, e90_124, e90_125, e90_126, e90_129, e90_132, e90_133, m90, ↓reduceIte, qg_0, qg_1, qg_2, qg_3, qg_4, qg_5, qg_6, qg_7, qg_8, qg_9, qg_10, qg_11, qg_12, qg_13, not_true_eq_false, not_false_eq_true, Nat.reduceBEq, Bool.false_eq_true, ex1, ex3, ex4, exF, qfit_i, qfit_l, qfit_r, qfit_n, qfit_b0, qfit_b1, qcat_i, qcat_r, qcat_n, qcat_l, qroom_0, qroom_c, List.map_cons, List.map_nil, List.sum_cons, List.sum_nil, Nat.reduceAdd, Nat.reduceMul, Nat.reduceLT, Nat.reduceLeDiff, Nat.reduceEqDiff, Nat.reduceSub, decide_true, true_and, and_true, and_self, if_true, if_false, Option.toList_some, Option.toList_none, List.cons_append, List.nil_append, qsL, qlong, List.length_cons, List.length_nil, iN_L, exI, iN_add, iN_mul, iN_le, iN_lt, iN_eq, Nat.le_refl, qfN0, qfN1, uX_16, vX_16, uX_19, vX_19, uX_27, vX_27, uX_30, vX_30, uX_39, vX_39, uX_41, vX_41, uX_43, vX_43, uX_46, vX_46, uX_50, vX_50, uX_53, vX_53, uX_27, vX_27, gX_27_2, v2, nw, q1, fr, u16, ult, uF, g0, g1, g2, g3, g4, g5, g6, fs]
        · have q2 : BL n ||| ON n = 2 ^ n - 1 := A0.mpr fun y => both ⟨E0.mp q1, y⟩
          rw [e90_61]
          simp (disch := first | assumption | omega) only [e90_0, e90_1, e90_2, e90_3, e90_4, e90_5, e90_7, e90_8, e90_11, e90_14, e90_17, e90_18, e90_19, e90_22, e90_23, e90_24, e90_27, e90_28, e90_29, e90_30, e90_33, e90_34, e90_35, e90_36, e90_37, e90_38, e90_41, e90_42, e90_43, e90_46, e90_47, e90_48, e90_49, e90_52, e90_53, e90_54, e90_55, e90_58, e90_62, e90_65, e90_66, e90_69, e90_70, e90_73, e90_74, e90_77, e90_78, e90_79, e90_80, e90_83, e90_84, e90_85, e90_86, e90_87, e90_90, e90_93, e90_96, e90_97, e90_98, e90_99, e90_102, e90_105, e90_106, e90_107, e90_111, e90_112, e90_113, e90_116, e90_117, e90_119, e90_120, e90_121, e90_124, e90_125, e90_126, e90_129, e90_132, e90_133, m90, ↓reduceIte, qg_0, qg_1, qg_2, qg_3, qg_4, qg_5, qg_6, qg_7, qg_8, qg_9, qg_10, qg_11, qg_12, qg_13, not_true_eq_false, not_false_eq_true, Nat.reduceBEq, Bool.false_eq_true, ex1, ex3, ex4, exF, qfit_i, qfit_l, qfit_r, qfit_n, qfit_b0, qfit_b1, qcat_i, qcat_r, qcat_n, qcat_l, qroom_0, qroom_c, List.map_cons, List.map_nil, List.sum_cons, List.sum_nil, Nat.reduceAdd, Nat.reduceMul, Nat.reduceLT, Nat.reduceLeDiff, Nat.reduceEqDiff, Nat.reduceSub, decide_true, true_and, and_true, and_self, if_true, if_false, Option.toList_some, Option.toList_none, List.cons_append, List.nil_append, qsL, qlong, List.length_cons, List.length_nil, iN_L, exI, iN_add, iN_mul, iN_le, iN_lt, iN_eq, Nat.le_refl, qfN0, qfN1, uX_16, vX_16, uX_19, vX_19, uX_27, vX_27, uX_30, vX_30, uX_39, vX_39, uX_41, vX_41, uX_43, vX_43, uX_46, vX_46, uX_50, vX_50, uX_53, vX_53, uX_27, vX_27, gX_27_2, v2, nw, q1, iN_or, fr, u16, ult, uF, g0, g1, g2, g3, g4, g5, g6, ev, q2, fs]
      have loop : ∀ (k f : Nat), f + k = (cel bs i (dmn bs i - 1)).length → (∀ t, t < f → (cel bs i (dmn bs i - 1)).getD t 0 ≠ ON n) → (qEv (d + 1) 3 qk_90 109 [some (.ref 27), some (.int (iN (BL n))), some (.int (iN (ON n))), some (.ref (B (dmn bs i - 1))), some (.int (iN f))] [] h R ↔ R = (some (.int (bB (tB (ON n ∉ cel bs i (dmn bs i - 1))))), h)) := by
        intro k
        induction k with
        | zero =>
          intro f hf hn
          have nin : ON n ∉ cel bs i (dmn bs i - 1) := fun z => by
            obtain ⟨t, ht, e⟩ := mem_getD0 z
            exact hn t (by omega) e
          rw [tB_t nin, bN_t, e90_109]
          simp (disch := first | assumption | omega) only [e90_0, e90_1, e90_2, e90_3, e90_4, e90_5, e90_7, e90_8, e90_11, e90_14, e90_17, e90_18, e90_19, e90_22, e90_23, e90_24, e90_27, e90_28, e90_29, e90_30, e90_33, e90_34, e90_35, e90_36, e90_37, e90_38, e90_41, e90_42, e90_43, e90_46, e90_47, e90_48, e90_49, e90_52, e90_53, e90_54, e90_55, e90_58, e90_62, e90_65, e90_66, e90_69, e90_70, e90_73, e90_74, e90_77, e90_78, e90_79, e90_80, e90_83, e90_84, e90_85, e90_86, e90_87, e90_90, e90_93, e90_96, e90_97, e90_98, e90_99, e90_102, e90_105, e90_106, e90_107, e90_111, e90_112, e90_113, e90_116, e90_117, e90_119, e90_120, e90_121, e90_124, e90_125, e90_126, e90_129, e90_132, e90_133, m90, ↓reduceIte, qg_0, qg_1, qg_2, qg_3, qg_4, qg_5, qg_6, qg_7, qg_8, qg_9, qg_10, qg_11, qg_12, qg_13, not_true_eq_false, not_false_eq_true, Nat.reduceBEq, Bool.false_eq_true, ex1, ex3, ex4, exF, qfit_i, qfit_l, qfit_r, qfit_n, qfit_b0, qfit_b1, qcat_i, qcat_r, qcat_n, qcat_l, qroom_0, qroom_c, List.map_cons, List.map_nil, List.sum_cons, List.sum_nil, Nat.reduceAdd, Nat.reduceMul, Nat.reduceLT, Nat.reduceLeDiff, Nat.reduceEqDiff, Nat.reduceSub, decide_true, true_and, and_true, and_self, if_true, if_false, Option.toList_some, Option.toList_none, List.cons_append, List.nil_append, qsL, qlong, List.length_cons, List.length_nil, iN_L, exI, iN_add, iN_mul, iN_le, iN_lt, iN_eq, Nat.le_refl, qfN0, qfN1, uX_16, vX_16, uX_19, vX_19, uX_27, vX_27, uX_30, vX_30, uX_39, vX_39, uX_41, vX_41, uX_43, vX_43, uX_46, vX_46, uX_50, vX_50, uX_53, vX_53, uX_27, vX_27, r2, show (cel bs i (dmn bs i - 1)).length ≤ f by omega]
        | succ k ih =>
          intro f hf hn
          have hf' : f < (cel bs i (dmn bs i - 1)).length := by omega
          have r3 := S.ck (K := dmn bs i - 1) (by omega) hf'
          have pf := (pb f hf').2
          by_cases z : (cel bs i (dmn bs i - 1)).getD f 0 = ON n
          · have yin : ON n ∈ cel bs i (dmn bs i - 1) := by rw [← z]; exact getD_mem0 hf'
            rw [tB_f (fun y => y yin), bN_f, e90_109]
            simp (disch := first | assumption | omega) only [e90_0, e90_1, e90_2, e90_3, e90_4, e90_5, e90_7, e90_8, e90_11, e90_14, e90_17, e90_18, e90_19, e90_22, e90_23, e90_24, e90_27, e90_28, e90_29, e90_30, e90_33, e90_34, e90_35, e90_36, e90_37, e90_38, e90_41, e90_42, e90_43, e90_46, e90_47, e90_48, e90_49, e90_52, e90_53, e90_54, e90_55, e90_58, e90_62, e90_65, e90_66, e90_69, e90_70, e90_73, e90_74, e90_77, e90_78, e90_79, e90_80, e90_83, e90_84, e90_85, e90_86, e90_87, e90_90, e90_93, e90_96, e90_97, e90_98, e90_99, e90_102, e90_105, e90_106, e90_107, e90_111, e90_112, e90_113, e90_116, e90_117, e90_119, e90_120, e90_121, e90_124, e90_125, e90_126, e90_129, e90_132, e90_133, m90, ↓reduceIte, qg_0, qg_1, qg_2, qg_3, qg_4, qg_5, qg_6, qg_7, qg_8, qg_9, qg_10, qg_11, qg_12, qg_13, not_true_eq_false, not_false_eq_true, Nat.reduceBEq, Bool.false_eq_true, ex1, ex3, ex4, exF, qfit_i, qfit_l, qfit_r, qfit_n, qfit_b0, qfit_b1, qcat_i, qcat_r, qcat_n, qcat_l, qroom_0, qroom_c, List.map_cons, List.map_nil, List.sum_cons, List.sum_nil, Nat.reduceAdd, Nat.reduceMul, Nat.reduceLT, Nat.reduceLeDiff, Nat.reduceEqDiff, Nat.reduceSub, decide_true, true_and, and_true, and_self, if_true, if_false, Option.toList_some, Option.toList_none, List.cons_append, List.nil_append, qsL, qlong, List.length_cons, List.length_nil, iN_L, exI, iN_add, iN_mul, iN_le, iN_lt, iN_eq, Nat.le_refl, qfN0, qfN1, uX_16, vX_16, uX_19, vX_19, uX_27, vX_27, uX_30, vX_30, uX_39, vX_39, uX_41, vX_41, uX_43, vX_43, uX_46, vX_46, uX_50, vX_50, uX_53, vX_53, uX_27, vX_27, r2, show ¬ (cel bs i (dmn bs i - 1)).length ≤ f by omega, r3, z]
          · rw [← ih (f + 1) (by omega) (fun t ht => by
              rcases Nat.lt_or_ge t f with y | y
              · exact hn t y
              · rw [show t = f by omega]; exact z), e90_109]
            simp (disch := first | assumption | omega) only [e90_0, e90_1, e90_2, e90_3, e90_4, e90_5, e90_7, e90_8, e90_11, e90_14, e90_17, e90_18, e90_19, e90_22, e90_23, e90_24, e90_27, e90_28, e90_29, e90_30, e90_33, e90_34, e90_35, e90_36, e90_37, e90_38, e90_41, e90_42, e90_43, e90_46, e90_47, e90_48, e90_49, e90_52, e90_53, e90_54, e90_55, e90_58, e90_62, e90_65, e90_66, e90_69, e90_70, e90_73, e90_74, e90_77, e90_78, e90_79, e90_80, e90_83, e90_84, e90_85, e90_86, e90_87, e90_90, e90_93, e90_96, e90_97, e90_98, e90_99, e90_102, e90_105, e90_106, e90_107, e90_111, e90_112, e90_113, e90_116, e90_117, e90_119, e90_120, e90_121, e90_124, e90_125, e90_126, e90_129, e90_132, e90_133, m90, ↓reduceIte, qg_0, qg_1, qg_2, qg_3, qg_4, qg_5, qg_6, qg_7, qg_8, qg_9, qg_10, qg_11, qg_12, qg_13, not_true_eq_false, not_false_eq_true, Nat.reduceBEq, Bool.false_eq_true, ex1, ex3, ex4, exF, qfit_i, qfit_l, qfit_r, qfit_n, qfit_b0, qfit_b1, qcat_i, qcat_r, qcat_n, qcat_l, qroom_0, qroom_c, List.map_cons, List.map_nil, List.sum_cons, List.sum_nil, Nat.reduceAdd, Nat.reduceMul, Nat.reduceLT, Nat.reduceLeDiff, Nat.reduceEqDiff, Nat.reduceSub, decide_true, true_and, and_true, and_self, if_true, if_false, Option.toList_some, Option.toList_none, List.cons_append, List.nil_append, qsL, qlong, List.length_cons, List.length_nil, iN_L, exI, iN_add, iN_mul, iN_le, iN_lt, iN_eq, Nat.le_refl, qfN0, qfN1, uX_16, vX_16, uX_19, vX_19, uX_27, vX_27, uX_30, vX_30, uX_39, vX_39, uX_41, vX_41, uX_43, vX_43, uX_46, vX_46, uX_50, vX_50, uX_53, vX_53, uX_27, vX_27, r2, show ¬ (cel bs i (dmn bs i - 1)).length ≤ f by omega, r3, z]
      have fe : (¬ ((∃ c, c < n ∧ lv c < 0) ∧ ∃ c, c < n ∧ 0 < lv c) ∧ ON n ∉ cel bs i (dmn bs i - 1)) = (ON n ∉ cel bs i (dmn bs i - 1)) := propext ⟨fun z => z.2, fun z => ⟨both, z⟩⟩
      rw [fe, to]
      exact loop _ 0 (Nat.zero_add _) (fun t ht => absurd ht (Nat.not_lt_zero t))
theorem kpL_cnt {cs : List pt4} {kp : Nat → Bool} : ∀ k, (kpL cs kp k).length = cntN kp k
  | 0 => rfl
  | k + 1 => by
    rw [kpL, List.length_append, kpL_cnt k, cntN]
    split <;> rfl
theorem SoP.edge {cs : List pt4} {C : Nat → List Nat} (P : SoP D cs C) {t : Nat} (ht : t < (C 1).length) : ∃ a c, a < c ∧ c < cs.length ∧ (C 1).getD t 0 = 2 ^ a ||| 2 ^ c := P.2.2.2.2.2.2.1 _ (getD_mem0 ht)
set_option maxRecDepth 100000 in
set_option maxHeartbeats 16000000 in
theorem x_pointCount {i w : Nat} {lv : Nat → Int} (s : ShX h) (X : BsX h bs sa) (hi' : i < bs.length) (v : SeX h bs sa i lv w) : qMC (d + 4) 93 [.ref 27] h R ↔ R = (some (.int (iN (cutP bs i lv (kpW lv w)).length)), h) := by
  obtain ⟨p, q, w', e, B, S, P⟩ := X.at hi'
  obtain ⟨⟨u16, ult, uF⟩, g0, g1, g2, g3, g4, g5, g6⟩ := S.obj
  have n16 := P.2.1.2
  have hD := P.1
  have fr := v.from s
  obtain ⟨b8, pb⟩ := P.2.2.2.2.1 1 (by decide)
  have c1 := S.ce (K := 1) (by decide)
  have l1 := S.cl (K := 1) (by decide)
  obtain ⟨K, eK⟩ : ∃ K : Nat → Nat, K = fun c => (kpL (cnr bs i) (kpW lv w) c).length := ⟨_, rfl⟩
  obtain ⟨E, eE⟩ : ∃ E : Nat → Nat, E = fun t => K (cnr bs i).length + (edL bs i lv ((cel bs i 1).take t)).length := ⟨_, rfl⟩
  have r0 : qMC (d + 4) 93 [.ref 27] h R ↔ qEv (d + 3) 0 qk_93 4 [some (.ref 27), some (.int (iN (K 0))), some (.int (iN 0)), none] [] h R := by
    rw [show K 0 = 0 by rw [eK]; rfl]
    simp (disch := first | assumption | omega) only [e93_0, e93_1, e93_2, e93_3, e93_5, e93_6, e93_9, e93_12, e93_15, e93_16, e93_17, e93_18, e93_21, e93_24, e93_25, e93_28, e93_29, e93_30, e93_31, e93_34, e93_37, e93_38, e93_41, e93_44, e93_45, e93_46, e93_47, e93_48, e93_49, e93_50, e93_51, e93_52, e93_55, e93_56, e93_57, e93_58, e93_59, e93_60, e93_63, e93_66, e93_67, e93_70, e93_71, e93_72, e93_73, e93_76, e93_79, e93_80, m93, ↓reduceIte, qg_0, qg_1, qg_2, qg_3, qg_4, qg_5, qg_6, qg_7, qg_8, qg_9, qg_10, qg_11, qg_12, qg_13, not_true_eq_false, not_false_eq_true, Nat.reduceBEq, Bool.false_eq_true, ex1, ex3, ex4, exF, qfit_i, qfit_l, qfit_r, qfit_n, qfit_b0, qfit_b1, qcat_i, qcat_r, qcat_n, qcat_l, qroom_0, qroom_c, List.map_cons, List.map_nil, List.sum_cons, List.sum_nil, Nat.reduceAdd, Nat.reduceMul, Nat.reduceLT, Nat.reduceLeDiff, Nat.reduceEqDiff, Nat.reduceSub, decide_true, true_and, and_true, and_self, if_true, if_false, Option.toList_some, Option.toList_none, List.cons_append, List.nil_append, qsL, qlong, List.length_cons, List.length_nil, iN_L, exI, iN_add, iN_mul, iN_le, iN_lt, iN_eq, Nat.le_refl, qfN0, qfN1, uX_16, vX_16, uX_19, vX_19, uX_27, vX_27, uX_30, vX_30, uX_39, vX_39, uX_41, vX_41, uX_43, vX_43, uX_46, vX_46, uX_50, vX_50, uX_53, vX_53, uX_27, vX_27]
  have r1 : qEv (d + 3) 0 qk_93 4 [some (.ref 27), some (.int (iN (K 0))), some (.int (iN 0)), none] [] h R ↔ qEv (d + 3) 0 qk_93 49 [some (.ref 27), some (.int (iN (E 0))), some (.ref (B 1)), some (.int (iN 0))] [] h R := by
    refine Iff.trans (loop_up (n := (cnr bs i).length) (L := fun c => [some (.ref 27), some (.int (iN (K c))), some (.int (iN c)), none]) (H := fun _ => h) ?_) ?_
    · intro c hc
      try dsimp only
      have ik : ∀ R, qMC (d + 3) 91 [.ref 27, .int (iN c)] h R ↔ R = (some (.int (bB (kpW lv w c))), h) := fun R => x_isKept s v n16 hc
      have ek : K (c + 1) = K c + (if kpW lv w c = true then 1 else 0) := by
        rw [eK]
        show (kpL (cnr bs i) (kpW lv w) (c + 1)).length = _
        rw [kpL, List.length_append]
        congr 1
        split <;> rfl
      rw [e93_4, ek]
      cases z : kpW lv w c with
      | true =>
        rw [z, bN_t] at ik
        simp (disch := first | assumption | omega) only [e93_0, e93_1, e93_2, e93_3, e93_5, e93_6, e93_9, e93_12, e93_15, e93_16, e93_17, e93_18, e93_21, e93_24, e93_25, e93_28, e93_29, e93_30, e93_31, e93_34, e93_37, e93_38, e93_41, e93_44, e93_45, e93_46, e93_47, e93_48, e93_50, e93_51, e93_52, e93_55, e93_56, e93_57, e93_58, e93_59, e93_60, e93_63, e93_66, e93_67, e93_70, e93_71, e93_72, e93_73, e93_76, e93_79, e93_80, m93, ↓reduceIte, qg_0, qg_1, qg_2, qg_3, qg_4, qg_5, qg_6, qg_7, qg_8, qg_9, qg_10, qg_11, qg_12, qg_13, not_true_eq_false, not_false_eq_true, Nat.reduceBEq, Bool.false_eq_true, ex1, ex3, ex4, exF, qfit_i, qfit_l, qfit_r, qfit_n, qfit_b0, qfit_b1, qcat_i, qcat_r, qcat_n, qcat_l, qroom_0, qroom_c, List.map_cons, List.map_nil, List.sum_cons, List.sum_nil, Nat.reduceAdd, Nat.reduceMul, Nat.reduceLT, Nat.reduceLeDiff, Nat.reduceEqDiff, Nat.reduceSub, decide_true, true_and, and_true, and_self, if_true, if_false, Option.toList_some, Option.toList_none, List.cons_append, List.nil_append, qsL, qlong, List.length_cons, List.length_nil, iN_L, exI, iN_add, iN_mul, iN_le, iN_lt, iN_eq, Nat.le_refl, qfN0, qfN1, uX_16, vX_16, uX_19, vX_19, uX_27, vX_27, uX_30, vX_30, uX_39, vX_39, uX_41, vX_41, uX_43, vX_43, uX_46, vX_46, uX_50, vX_50, uX_53, vX_53, uX_27, vX_27, fr, u16, ult, uF, g0, g1, g2, g3, g4, g5, g6, show ¬ (cnr bs i).length ≤ c by omega, ik]
      | false =>
        rw [z, bN_f] at ik
        simp (disch := first | assumption | omega) only [e93_0, e93_1, e93_2, e93_3, e93_5, e93_6, e93_9, e93_12, e93_15, e93_16, e93_17, e93_18, e93_21, e93_24, e93_25, e93_28, e93_29, e93_30, e93_31, e93_34, e93_37, e93_38, e93_41, e93_44, e93_45, e93_46, e93_47, e93_48, e93_50, e93_51, e93_52, e93_55, e93_56, e93_57, e93_58, e93_59, e93_60, e93_63, e93_66, e93_67, e93_70, e93_71, e93_72, e93_73, e93_76, e93_79, e93_80, m93, ↓reduceIte, qg_0, qg_1, qg_2, qg_3, qg_4, qg_5, qg_6, qg_7, qg_8, qg_9, qg_10, qg_11, qg_12, qg_13, not_true_eq_false, not_false_eq_true, Nat.reduceBEq, Bool.false_eq_true, ex1, ex3, ex4, exF, qfit_i, qfit_l, qfit_r, qfit_n, qfit_b0, qfit_b1, qcat_i, qcat_r, qcat_n, qcat_l, qroom_0, qroom_c, List.map_cons, List.map_nil, List.sum_cons, List.sum_nil, Nat.reduceAdd, Nat.reduceMul, Nat.reduceLT, Nat.reduceLeDiff, Nat.reduceEqDiff, Nat.reduceSub, decide_true, true_and, and_true, and_self, if_true, if_false, Option.toList_some, Option.toList_none, List.cons_append, List.nil_append, qsL, qlong, List.length_cons, List.length_nil, iN_L, exI, iN_add, iN_mul, iN_le, iN_lt, iN_eq, Nat.le_refl, qfN0, qfN1, uX_16, vX_16, uX_19, vX_19, uX_27, vX_27, uX_30, vX_30, uX_39, vX_39, uX_41, vX_41, uX_43, vX_43, uX_46, vX_46, uX_50, vX_50, uX_53, vX_53, uX_27, vX_27, fr, u16, ult, uF, g0, g1, g2, g3, g4, g5, g6, show ¬ (cnr bs i).length ≤ c by omega, ik, Nat.add_zero]
    · try dsimp only
      rw [e93_4, show E 0 = K (cnr bs i).length by rw [eE]; rfl]
      simp (disch := first | assumption | omega) only [e93_0, e93_1, e93_2, e93_3, e93_5, e93_6, e93_9, e93_12, e93_15, e93_16, e93_17, e93_18, e93_21, e93_24, e93_25, e93_28, e93_29, e93_30, e93_31, e93_34, e93_37, e93_38, e93_41, e93_44, e93_45, e93_46, e93_47, e93_48, e93_50, e93_51, e93_52, e93_55, e93_56, e93_57, e93_58, e93_59, e93_60, e93_63, e93_66, e93_67, e93_70, e93_71, e93_72, e93_73, e93_76, e93_79, e93_80, m93, ↓reduceIte, qg_0, qg_1, qg_2, qg_3, qg_4, qg_5, qg_6, qg_7, qg_8, qg_9, qg_10, qg_11, qg_12, qg_13, not_true_eq_false, not_false_eq_true, Nat.reduceBEq, Bool.false_eq_true, ex1, ex3, ex4, exF, qfit_i, qfit_l, qfit_r, qfit_n, qfit_b0, qfit_b1, qcat_i, qcat_r, qcat_n, qcat_l, qroom_0, qroom_c, List.map_cons, List.map_nil, List.sum_cons, List.sum_nil, Nat.reduceAdd, Nat.reduceMul, Nat.reduceLT, Nat.reduceLeDiff, Nat.reduceEqDiff, Nat.reduceSub, decide_true, true_and, and_true, and_self, if_true, if_false, Option.toList_some, Option.toList_none, List.cons_append, List.nil_append, qsL, qlong, List.length_cons, List.length_nil, iN_L, exI, iN_add, iN_mul, iN_le, iN_lt, iN_eq, Nat.le_refl, qfN0, qfN1, uX_16, vX_16, uX_19, vX_19, uX_27, vX_27, uX_30, vX_30, uX_39, vX_39, uX_41, vX_41, uX_43, vX_43, uX_46, vX_46, uX_50, vX_50, uX_53, vX_53, uX_27, vX_27, fr, u16, ult, uF, g0, g1, g2, g3, g4, g5, g6, c1, rf_some]
  rw [r0, r1]
  refine Iff.trans (loop_up (n := (cel bs i 1).length) (L := fun t => [some (.ref 27), some (.int (iN (E t))), some (.ref (B 1)), some (.int (iN t))]) (H := fun _ => h) ?_) ?_
  · intro t ht
    try dsimp only
    obtain ⟨a, c, hac, hc, ey⟩ := P.edge ht
    have ry := S.ck (K := 1) (by decide) ht
    rw [ey] at ry
    have ic : ∀ R, qMC (d + 3) 92 [.ref 27, .int (iN (2 ^ a ||| 2 ^ c))] h R ↔ R = (some (.int (bB (tB (crs lv (2 ^ a ||| 2 ^ c))))), h) := fun R => x_isCrossed s v n16 hac hc
    have ee : E (t + 1) = E t + (if tB (crs lv (2 ^ a ||| 2 ^ c)) = true then 1 else 0) := by
      rw [eE]
      show K _ + (edL bs i lv ((cel bs i 1).take (t + 1))).length = _
      rw [edL_take ht, List.length_append, ey]
      unfold edP
      rw [← Nat.add_assoc]
      congr 1
      split <;> rfl
    rw [e93_49, ee]
    by_cases z : crs lv (2 ^ a ||| 2 ^ c)
    · rw [tB_t z, bN_t] at ic
      rw [tB_t z]
      simp (disch := first | assumption | omega) only [e93_0, e93_1, e93_2, e93_3, e93_5, e93_6, e93_9, e93_12, e93_15, e93_16, e93_17, e93_18, e93_21, e93_24, e93_25, e93_28, e93_29, e93_30, e93_31, e93_34, e93_37, e93_38, e93_41, e93_44, e93_45, e93_46, e93_47, e93_48, e93_50, e93_51, e93_52, e93_55, e93_56, e93_57, e93_58, e93_59, e93_60, e93_63, e93_66, e93_67, e93_70, e93_71, e93_72, e93_73, e93_76, e93_79, e93_80, m93, ↓reduceIte, qg_0, qg_1, qg_2, qg_3, qg_4, qg_5, qg_6, qg_7, qg_8, qg_9, qg_10, qg_11, qg_12, qg_13, not_true_eq_false, not_false_eq_true, Nat.reduceBEq, Bool.false_eq_true, ex1, ex3, ex4, exF, qfit_i, qfit_l, qfit_r, qfit_n, qfit_b0, qfit_b1, qcat_i, qcat_r, qcat_n, qcat_l, qroom_0, qroom_c, List.map_cons, List.map_nil, List.sum_cons, List.sum_nil, Nat.reduceAdd, Nat.reduceMul, Nat.reduceLT, Nat.reduceLeDiff, Nat.reduceEqDiff, Nat.reduceSub, decide_true, true_and, and_true, and_self, if_true, if_false, Option.toList_some, Option.toList_none, List.cons_append, List.nil_append, qsL, qlong, List.length_cons, List.length_nil, iN_L, exI, iN_add, iN_mul, iN_le, iN_lt, iN_eq, Nat.le_refl, qfN0, qfN1, uX_16, vX_16, uX_19, vX_19, uX_27, vX_27, uX_30, vX_30, uX_39, vX_39, uX_41, vX_41, uX_43, vX_43, uX_46, vX_46, uX_50, vX_50, uX_53, vX_53, uX_27, vX_27, l1, show ¬ (cel bs i 1).length ≤ t by omega, ry, ic]
    · rw [tB_f z, bN_f] at ic
      rw [tB_f z]
      simp (disch := first | assumption | omega) only [e93_0, e93_1, e93_2, e93_3, e93_5, e93_6, e93_9, e93_12, e93_15, e93_16, e93_17, e93_18, e93_21, e93_24, e93_25, e93_28, e93_29, e93_30, e93_31, e93_34, e93_37, e93_38, e93_41, e93_44, e93_45, e93_46, e93_47, e93_48, e93_50, e93_51, e93_52, e93_55, e93_56, e93_57, e93_58, e93_59, e93_60, e93_63, e93_66, e93_67, e93_70, e93_71, e93_72, e93_73, e93_76, e93_79, e93_80, m93, ↓reduceIte, qg_0, qg_1, qg_2, qg_3, qg_4, qg_5, qg_6, qg_7, qg_8, qg_9, qg_10, qg_11, qg_12, qg_13, not_true_eq_false, not_false_eq_true, Nat.reduceBEq, Bool.false_eq_true, ex1, ex3, ex4, exF, qfit_i, qfit_l, qfit_r, qfit_n, qfit_b0, qfit_b1, qcat_i, qcat_r, qcat_n, qcat_l, qroom_0, qroom_c, List.map_cons, List.map_nil, List.sum_cons, List.sum_nil, Nat.reduceAdd, Nat.reduceMul, Nat.reduceLT, Nat.reduceLeDiff, Nat.reduceEqDiff, Nat.reduceSub, decide_true, true_and, and_true, and_self, if_true, if_false, Option.toList_some, Option.toList_none, List.cons_append, List.nil_append, qsL, qlong, List.length_cons, List.length_nil, iN_L, exI, iN_add, iN_mul, iN_le, iN_lt, iN_eq, Nat.le_refl, qfN0, qfN1, uX_16, vX_16, uX_19, vX_19, uX_27, vX_27, uX_30, vX_30, uX_39, vX_39, uX_41, vX_41, uX_43, vX_43, uX_46, vX_46, uX_50, vX_50, uX_53, vX_53, uX_27, vX_27, l1, show ¬ (cel bs i 1).length ≤ t by omega, ry, ic, Nat.add_zero]
  · try dsimp only
    have en : E (cel bs i 1).length = (cutP bs i lv (kpW lv w)).length := by
      rw [eE]
      show K _ + (edL bs i lv ((cel bs i 1).take (cel bs i 1).length)).length = _
      rw [List.take_length, eK]
      unfold cutP
      rw [List.length_append]
    rw [e93_49, en]
    simp (disch := first | assumption | omega) only [e93_0, e93_1, e93_2, e93_3, e93_5, e93_6, e93_9, e93_12, e93_15, e93_16, e93_17, e93_18, e93_21, e93_24, e93_25, e93_28, e93_29, e93_30, e93_31, e93_34, e93_37, e93_38, e93_41, e93_44, e93_45, e93_46, e93_47, e93_48, e93_50, e93_51, e93_52, e93_55, e93_56, e93_57, e93_58, e93_59, e93_60, e93_63, e93_66, e93_67, e93_70, e93_71, e93_72, e93_73, e93_76, e93_79, e93_80, m93, ↓reduceIte, qg_0, qg_1, qg_2, qg_3, qg_4, qg_5, qg_6, qg_7, qg_8, qg_9, qg_10, qg_11, qg_12, qg_13, not_true_eq_false, not_false_eq_true, Nat.reduceBEq, Bool.false_eq_true, ex1, ex3, ex4, exF, qfit_i, qfit_l, qfit_r, qfit_n, qfit_b0, qfit_b1, qcat_i, qcat_r, qcat_n, qcat_l, qroom_0, qroom_c, List.map_cons, List.map_nil, List.sum_cons, List.sum_nil, Nat.reduceAdd, Nat.reduceMul, Nat.reduceLT, Nat.reduceLeDiff, Nat.reduceEqDiff, Nat.reduceSub, decide_true, true_and, and_true, and_self, if_true, if_false, Option.toList_some, Option.toList_none, List.cons_append, List.nil_append, qsL, qlong, List.length_cons, List.length_nil, iN_L, exI, iN_add, iN_mul, iN_le, iN_lt, iN_eq, Nat.le_refl, qfN0, qfN1, uX_16, vX_16, uX_19, vX_19, uX_27, vX_27, uX_30, vX_30, uX_39, vX_39, uX_41, vX_41, uX_43, vX_43, uX_46, vX_46, uX_50, vX_50, uX_53, vX_53, uX_27, vX_27, l1]
end XFLAT

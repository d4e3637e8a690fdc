/-! ===== THE CLASS: where ===== -/
section XCELL
variable {d : Nat} {h : qH} {bs : List bdy} {sa : Nat → Nat} {R : qRes}
/-- no cell has all corners -/
theorem cel_part {l : List pt4} {D K y : Nat} (ok : okP l D) (so : solid l D) (hy : y ∈ cls l D K) : y ≠ 2 ^ (ncr l D) - 1 := by
  obtain ⟨m, S, G, b⟩ := bdG_ex ok so
  have fc : ∀ x, isFc l D x → ∃ c, c < ncr l D ∧ x.testBit c = false := by
    intro x hx
    obtain ⟨j, hj, rfl⟩ := b.fcI.mp hx
    obtain ⟨c, hc, nz⟩ := gnz_pt b.P.1 (b.fm.1 j hj).1.2
    refine ⟨c, hc, ?_⟩
    cases e : (fcs l D S j).testBit c with
    | false => rfl
    | true => exact absurd ((b.bit hj).mp e).2 nz
  obtain ⟨-, hc⟩ := cls_mem.mp hy
  obtain ⟨x, hx, hs⟩ : ∃ x, isFc l D x ∧ y &&& x = y := by
    rcases hc with ⟨-, h1⟩ | ⟨-, h1, -⟩
    · exact ⟨y, h1, Nat.and_self y⟩
    · exact h1.2.1
  obtain ⟨c, c1, c2⟩ := fc x hx
  intro e
  have : (y &&& x).testBit c = true := by rw [hs, e, Nat.testBit_two_pow_sub_one, decide_eq_true c1]
  rw [Nat.testBit_and, c2, Bool.and_false] at this
  cases this
theorem whrZ_sg {i : Nat} {Q Qv : Nat → Nat → Int} {p : pt4} {v : Int32} (sg : ∀ j, j < (fct bs i).length → ((0 < ovZ (Q j) (dmn bs i) p 1 ↔ 0 < ovZ (Qv j) (dmn bs i) p 1) ∧ (ovZ (Q j) (dmn bs i) p 1 = 0 ↔ ovZ (Qv j) (dmn bs i) p 1 = 0))) (hv : whrZ bs i Qv p v) : whrZ bs i Q p v := by
  have le : ∀ j, j < (fct bs i).length → (ovZ (Q j) (dmn bs i) p 1 ≤ 0 ↔ ovZ (Qv j) (dmn bs i) p 1 ≤ 0) := fun j hj => by have := (sg j hj).1; omega
  have lt : ∀ j, j < (fct bs i).length → (ovZ (Q j) (dmn bs i) p 1 < 0 ↔ ovZ (Qv j) (dmn bs i) p 1 < 0) := fun j hj => by have := sg j hj; omega
  have ec : comS (fct bs i) (fun j => decide (ovZ (Q j) (dmn bs i) p 1 = 0)) (cnr bs i).length (fct bs i).length = comS (fct bs i) (fun j => decide (ovZ (Qv j) (dmn bs i) p 1 = 0)) (cnr bs i).length (fct bs i).length := by
    unfold comS
    refine mask_ext fun c _ => ?_
    rw [Bool.eq_iff_iff, allN_iff, allN_iff]
    refine forall_congr' fun j => forall_congr' fun hj => ?_
    dsimp only
    rw [decide_eq_decide.mpr (sg j hj).2]
  rcases hv with ⟨⟨j, h1, h2⟩, e⟩ | ⟨h1, e⟩ | ⟨h1, ⟨j, h2, h3⟩, k, h4, e⟩
  · exact Or.inl ⟨⟨j, h1, (sg j h1).1.mpr h2⟩, e⟩
  · exact Or.inr (Or.inl ⟨fun j hj => (lt j hj).mpr (h1 j hj), e⟩)
  · exact Or.inr (Or.inr ⟨fun j hj => (le j hj).mpr (h1 j hj), ⟨j, h2, (sg j h2).2.mpr h3⟩, k, by rw [ec]; exact h4, e⟩)
set_option maxRecDepth 100000 in
set_option maxHeartbeats 16000000 in
theorem x_cellAround {i r t w : Nat} {p : pt4} {v : Int32} {Q : Nat → Nat → Int} {pp q e : Nat} {B : Nat → Nat} (pr : ∀ K y, y ∈ cel bs i K → y ≠ 2 ^ (cnr bs i).length - 1) (S : SoD h (sa i) (dmn bs i) (scl bs i) (cnr bs i) (cel bs i) pp q w e B) (P : SoP (dmn bs i) (cnr bs i) (cel bs i)) (V : SoQ h w (bs.getD i b0).1 (dmn bs i) (fct bs i) Q) (sp : spX h r t p) (ht : t < 1000) (hv : whrZ bs i Q p v) : qMC (d + 3) 118 [.ref (sa i), .ref r, .int (iN t)] h R ↔ R = (some (.int v), h) := by
  have fb : ∀ u, prtZ bs i Q p u → ∀ R, qMC (d + 2) 117 [.ref (sa i), .ref r, .int (iN t)] h R ↔ R = (some (.int u), h) := fun u hu R => x_first S P V sp ht hu
  have hb : ∀ j, j < (fct bs i).length → ∀ R, qMC (d + 2) 116 [.ref (sa i), .int (iN j), .ref r, .int (iN t)] h R ↔ R = (some (.long (lZ (ovZ (Q j) (dmn bs i) p 1))), h) := fun j hj R => x_beyond S P.1.1 V hj P.fl sp ht
  have lb : ∀ j, j < (fct bs i).length → lB (ovZ (Q j) (dmn bs i) p 1) := fun j hj => by
    obtain ⟨n, -, -, sv⟩ := sp
    exact ovZ_1b P.1.1 (V.2 j hj).1.2 fun k hk => (sv k hk).2
  obtain ⟨⟨u16, ult, uF⟩, g0, g1, g2, g3, g4, g5, g6⟩ := S.obj
  have hD := P.1
  have n16 := P.2.1.2
  have fc : ∀ R, qMC (d + 2) 108 [.ref (sa i)] h R ↔ R = (some (.int (iN (fct bs i).length)), h) := fun R => x_facetCount S P.1
  have ev : ∀ R, qMC (d + 2) 103 [.ref (sa i)] h R ↔ R = (some (.int (iN (2 ^ (cnr bs i).length - 1))), h) := fun R => x_every S n16
  have l8 := P.fl
  have eD : iN (dmn bs i) - iN 1 = iN (dmn bs i - 1) := iN_sub (by omega)
  have ce1 := S.ce (K := dmn bs i - 1) (by omega)
  obtain ⟨Z, eZ⟩ : ∃ Z : Nat → Bool, Z = fun j => decide (ovZ (Q j) (dmn bs i) p 1 = 0) := ⟨_, rfl⟩
  by_cases hout : ∃ j, j < (fct bs i).length ∧ 0 < ovZ (Q j) (dmn bs i) p 1
  · have ve : v = -1 := by
      obtain ⟨j, j1, j2⟩ := hout
      rcases hv with ⟨-, e⟩ | ⟨h1, -⟩ | ⟨h1, -⟩
      · exact e
      · have := h1 j j1; omega
      · have := h1 j j1; omega
    obtain ⟨j, j1, j2⟩ := hout
    obtain ⟨k, k1, k2, k3⟩ := least (p := fun t => t < (fct bs i).length ∧ 0 < ovZ (Q t) (dmn bs i) p 1) ⟨j, Nat.le_refl _, j1, j2⟩
    have f1 := fb (iN k) (Or.inr ⟨k, ⟨k2.1, k2.2, fun u hu => by
      have : ¬ (u < (fct bs i).length ∧ 0 < ovZ (Q u) (dmn bs i) p 1) := k3 u hu
      have := k2.1
      omega⟩, rfl⟩)
    have kl := k2.1
    have nm : ¬ iN k = -iN 1 := fun y => by
      have h1 := congrArg Int32.toInt y
      rw [iN_int (by omega), show (-iN 1).toInt = -1 from rfl] at h1
      omega
    rw [ve]
    simp (disch := first | assumption | omega) only [e118_0, e118_1, e118_2, e118_3, e118_6, e118_7, e118_10, e118_11, e118_12, e118_13, e118_16, e118_17, e118_18, e118_22, e118_23, e118_26, e118_29, e118_30, e118_32, e118_33, e118_34, e118_37, e118_38, e118_39, e118_42, e118_43, e118_44, e118_47, e118_48, e118_51, e118_52, e118_53, e118_54, e118_56, e118_57, e118_58, e118_59, e118_62, e118_65, e118_66, e118_70, e118_71, e118_74, e118_77, e118_78, e118_80, e118_82, e118_83, e118_86, e118_88, e118_89, e118_90, e118_93, e118_94, e118_97, e118_99, e118_100, e118_102, e118_103, e118_104, e118_107, e118_109, e118_110, e118_113, e118_116, e118_119, e118_122, e118_123, e118_126, m118, ↓reduceIte, qg_0, qg_1, qg_2, qg_3, qg_4, qg_5, qg_6, qg_7, qg_8, qg_9, qg_10, qg_11, qg_12, qg_13, not_true_eq_false, not_false_eq_true, Nat.reduceBEq, Bool.false_eq_true, ex1, ex3, ex4, exF, qfit_i, qfit_l, qfit_r, qfit_n, qfit_b0, qfit_b1, qcat_i, qcat_r, qcat_n, qcat_l, qroom_0, qroom_c, List.map_cons, List.map_nil, List.sum_cons, List.sum_nil, Nat.reduceAdd, Nat.reduceMul, Nat.reduceLT, Nat.reduceLeDiff, Nat.reduceEqDiff, Nat.reduceSub, decide_true, true_and, and_true, and_self, if_true, if_false, Option.toList_some, Option.toList_none, List.cons_append, List.nil_append, qsL, qlong, List.length_cons, List.length_nil, iN_L, exI, iN_add, iN_mul, iN_le, iN_lt, iN_eq, Nat.le_refl, qfN0, qfN1, uX_16, vX_16, uX_19, vX_19, uX_27, vX_27, uX_30, vX_30, uX_39, vX_39, uX_41, vX_41, uX_43, vX_43, uX_46, vX_46, uX_50, vX_50, uX_53, vX_53, u16, ult, uF, g0, g1, g2, g3, g4, g5, g6, f1, nm]
  · have hall : ∀ j, j < (fct bs i).length → ovZ (Q j) (dmn bs i) p 1 ≤ 0 := fun j hj => by
      have : ¬ 0 < ovZ (Q j) (dmn bs i) p 1 := fun z => hout ⟨j, hj, z⟩
      omega
    have f1 : ∀ R, qMC (d + 2) 117 [.ref (sa i), .ref r, .int (iN t)] h R ↔ R = (some (.int (-iN 1)), h) := fb (-iN 1) (Or.inl ⟨hall, rfl⟩)
    have r0 : qMC (d + 3) 118 [.ref (sa i), .ref r, .int (iN t)] h R ↔ qEv (d + 2) 0 qk_118 20 [some (.ref (sa i)), some (.ref r), some (.int (iN t)), some (.int (iN (comS (fct bs i) Z (cnr bs i).length 0))), some (.int (iN 0)), none] [] h R := by
      rw [show comS (fct bs i) Z (cnr bs i).length 0 = 2 ^ (cnr bs i).length - 1 from by rw [mask_all]; rfl]
      simp (disch := first | assumption | omega) only [e118_0, e118_1, e118_2, e118_3, e118_6, e118_7, e118_10, e118_11, e118_12, e118_13, e118_16, e118_17, e118_18, e118_22, e118_23, e118_26, e118_29, e118_30, e118_32, e118_33, e118_34, e118_37, e118_38, e118_39, e118_42, e118_43, e118_44, e118_47, e118_48, e118_51, e118_52, e118_53, e118_54, e118_56, e118_57, e118_58, e118_59, e118_62, e118_65, e118_66, e118_70, e118_71, e118_74, e118_77, e118_78, e118_80, e118_82, e118_83, e118_86, e118_88, e118_89, e118_90, e118_93, e118_94, e118_97, e118_99, e118_100, e118_102, e118_103, e118_104, e118_107, e118_109, e118_110, e118_113, e118_116, e118_119, e118_122, e118_123, e118_126, m118, ↓reduceIte, qg_0, qg_1, qg_2, qg_3, qg_4, qg_5, qg_6, qg_7, qg_8, qg_9, qg_10, qg_11, qg_12, qg_13, not_true_eq_false, not_false_eq_true, Nat.reduceBEq, Bool.false_eq_true, ex1, ex3, ex4, exF, qfit_i, qfit_l, qfit_r, qfit_n, qfit_b0, qfit_b1, qcat_i, qcat_r, qcat_n, qcat_l, qroom_0, qroom_c, List.map_cons, List.map_nil, List.sum_cons, List.sum_nil, Nat.reduceAdd, Nat.reduceMul, Nat.reduceLT, Nat.reduceLeDiff, Nat.reduceEqDiff, Nat.reduceSub, decide_true, true_and, and_true, and_self, if_true, if_false, Option.toList_some, Option.toList_none, List.cons_append, List.nil_append, qsL, qlong, List.length_cons, List.length_nil, iN_L, exI, iN_add, iN_mul, iN_le, iN_lt, iN_eq, Nat.le_refl, qfN0, qfN1, uX_16, vX_16, uX_19, vX_19, uX_27, vX_27, uX_30, vX_30, uX_39, vX_39, uX_41, vX_41, uX_43, vX_43, uX_46, vX_46, uX_50, vX_50, uX_53, vX_53, u16, ult, uF, g0, g1, g2, g3, g4, g5, g6, f1, ev]
    rw [r0]
    obtain ⟨C, eC⟩ : ∃ C, C = comS (fct bs i) Z (cnr bs i).length (fct bs i).length := ⟨_, rfl⟩
    have C16 : C < 65536 := by rw [eC]; exact mask_16 n16
    have cl : ∀ m, comS (fct bs i) Z (cnr bs i).length m < 65536 := fun m => mask_16 n16
    have r1 : qEv (d + 2) 0 qk_118 20 [some (.ref (sa i)), some (.ref r), some (.int (iN t)), some (.int (iN (comS (fct bs i) Z (cnr bs i).length 0))), some (.int (iN 0)), none] [] h R ↔ qEv (d + 2) 0 qk_118 20 [some (.ref (sa i)), some (.ref r), some (.int (iN t)), some (.int (iN C)), some (.int (iN ((fct bs i).length))), none] [] h R := by
      rw [eC]
      refine loop_up (n := (fct bs i).length) (L := fun j => [some (.ref (sa i)), some (.ref r), some (.int (iN t)), some (.int (iN (comS (fct bs i) Z (cnr bs i).length j))), some (.int (iN j)), none]) (H := fun _ => h) ?_
      intro j hj
      try dsimp only
      have hbj := hb j hj
      have le := lZ_eq (lb j hj) lB_0
      have ck := S.ck (K := dmn bs i - 1) (by omega) hj
      have ck' : qiald h (B (dmn bs i - 1)) (iN j) = some (iN ((fct bs i).getD j 0)) := ck
      have hZ : Z j = decide (ovZ (Q j) (dmn bs i) p 1 = 0) := by rw [eZ]
      rw [comS_step, hZ, e118_20]
      by_cases z : ovZ (Q j) (dmn bs i) p 1 = 0
      · rw [decide_eq_true z, if_pos rfl]
        simp (disch := first | assumption | omega) only [e118_0, e118_1, e118_2, e118_3, e118_6, e118_7, e118_10, e118_11, e118_12, e118_13, e118_16, e118_17, e118_18, e118_22, e118_23, e118_26, e118_29, e118_30, e118_32, e118_33, e118_34, e118_37, e118_38, e118_39, e118_42, e118_43, e118_44, e118_47, e118_48, e118_51, e118_52, e118_53, e118_54, e118_56, e118_57, e118_58, e118_59, e118_62, e118_65, e118_66, e118_70, e118_71, e118_74, e118_77, e118_78, e118_80, e118_82, e118_83, e118_86, e118_88, e118_89, e118_90, e118_93, e118_94, e118_97, e118_99, e118_100, e118_102, e118_103, e118_104, e118_107, e118_109, e118_110, e118_113, e118_116, e118_119, e118_122, e118_123, e118_126, m118, ↓reduceIte, qg_0, qg_1, qg_2, qg_3, qg_4, qg_5, qg_6, qg_7, qg_8, qg_9, qg_10, qg_11, qg_12, qg_13, not_true_eq_false, not_false_eq_true, Nat.reduceBEq, Bool.false_eq_true, ex1, ex3, ex4, exF, qfit_i, qfit_l, qfit_r, qfit_n, qfit_b0, qfit_b1, qcat_i, qcat_r, qcat_n, qcat_l, qroom_0, qroom_c, List.map_cons, List.map_nil, List.sum_cons, List.sum_nil, Nat.reduceAdd, Nat.reduceMul, Nat.reduceLT, Nat.reduceLeDiff, Nat.reduceEqDiff, Nat.reduceSub, decide_true, true_and, and_true, and_self, if_true, if_false, Option.toList_some, Option.toList_none, List.cons_append, List.nil_append, qsL, qlong, List.length_cons, List.length_nil, iN_L, exI, iN_add, iN_mul, iN_le, iN_lt, iN_eq, Nat.le_refl, qfN0, qfN1, uX_16, vX_16, uX_19, vX_19, uX_27, vX_27, uX_30, vX_30, uX_39, vX_39, uX_41, vX_41, uX_43, vX_43, uX_46, vX_46, uX_50, vX_50, uX_53, vX_53, u16, ult, uF, g0, g1, g2, g3, g4, g5, g6, fc, show ¬ (fct bs i).length ≤ j by omega, hbj, lgN_eq, show (0 : Int64) = lZ 0 from rfl, le, z, eD, ce1, rf_some, ck', iN_and (comS (fct bs i) Z (cnr bs i).length j)]
      · rw [decide_eq_false z, if_neg Bool.false_ne_true]
        simp (disch := first | assumption | omega) only [e118_0, e118_1, e118_2, e118_3, e118_6, e118_7, e118_10, e118_11, e118_12, e118_13, e118_16, e118_17, e118_18, e118_22, e118_23, e118_26, e118_29, e118_30, e118_32, e118_33, e118_34, e118_37, e118_38, e118_39, e118_42, e118_43, e118_44, e118_47, e118_48, e118_51, e118_52, e118_53, e118_54, e118_56, e118_57, e118_58, e118_59, e118_62, e118_65, e118_66, e118_70, e118_71, e118_74, e118_77, e118_78, e118_80, e118_82, e118_83, e118_86, e118_88, e118_89, e118_90, e118_93, e118_94, e118_97, e118_99, e118_100, e118_102, e118_103, e118_104, e118_107, e118_109, e118_110, e118_113, e118_116, e118_119, e118_122, e118_123, e118_126, m118, ↓reduceIte, qg_0, qg_1, qg_2, qg_3, qg_4, qg_5, qg_6, qg_7, qg_8, qg_9, qg_10, qg_11, qg_12, qg_13, not_true_eq_false, not_false_eq_true, Nat.reduceBEq, Bool.false_eq_true, ex1, ex3, ex4, exF, qfit_i, qfit_l, qfit_r, qfit_n, qfit_b0, qfit_b1, qcat_i, qcat_r, qcat_n, qcat_l, qroom_0, qroom_c, List.map_cons, List.map_nil, List.sum_cons, List.sum_nil, Nat.reduceAdd, Nat.reduceMul, Nat.reduceLT, Nat.reduceLeDiff, Nat.reduceEqDiff, Nat.reduceSub, decide_true, true_and, and_true, and_self, if_true, if_false, Option.toList_some, Option.toList_none, List.cons_append, List.nil_append, qsL, qlong, List.length_cons, List.length_nil, iN_L, exI, iN_add, iN_mul, iN_le, iN_lt, iN_eq, Nat.le_refl, qfN0, qfN1, uX_16, vX_16, uX_19, vX_19, uX_27, vX_27, uX_30, vX_30, uX_39, vX_39, uX_41, vX_41, uX_43, vX_43, uX_46, vX_46, uX_50, vX_50, uX_53, vX_53, u16, ult, uF, g0, g1, g2, g3, g4, g5, g6, fc, show ¬ (fct bs i).length ≤ j by omega, hbj, lgN_eq, show (0 : Int64) = lZ 0 from rfl, le, z]
    rw [r1]
    have r2 : qEv (d + 2) 0 qk_118 20 [some (.ref (sa i)), some (.ref r), some (.int (iN t)), some (.int (iN C)), some (.int (iN ((fct bs i).length))), none] [] h R ↔ qEv (d + 2) 0 qk_118 68 [some (.ref (sa i)), some (.ref r), some (.int (iN t)), some (.int (iN C)), some (.int (iN 0)), none] [] h R := by
      rw [e118_20]
      simp (disch := first | assumption | omega) only [e118_0, e118_1, e118_2, e118_3, e118_6, e118_7, e118_10, e118_11, e118_12, e118_13, e118_16, e118_17, e118_18, e118_22, e118_23, e118_26, e118_29, e118_30, e118_32, e118_33, e118_34, e118_37, e118_38, e118_39, e118_42, e118_43, e118_44, e118_47, e118_48, e118_51, e118_52, e118_53, e118_54, e118_56, e118_57, e118_58, e118_59, e118_62, e118_65, e118_66, e118_70, e118_71, e118_74, e118_77, e118_78, e118_80, e118_82, e118_83, e118_86, e118_88, e118_89, e118_90, e118_93, e118_94, e118_97, e118_99, e118_100, e118_102, e118_103, e118_104, e118_107, e118_109, e118_110, e118_113, e118_116, e118_119, e118_122, e118_123, e118_126, m118, ↓reduceIte, qg_0, qg_1, qg_2, qg_3, qg_4, qg_5, qg_6, qg_7, qg_8, qg_9, qg_10, qg_11, qg_12, qg_13, not_true_eq_false, not_false_eq_true, Nat.reduceBEq, Bool.false_eq_true, ex1, ex3, ex4, exF, qfit_i, qfit_l, qfit_r, qfit_n, qfit_b0, qfit_b1, qcat_i, qcat_r, qcat_n, qcat_l, qroom_0, qroom_c, List.map_cons, List.map_nil, List.sum_cons, List.sum_nil, Nat.reduceAdd, Nat.reduceMul, Nat.reduceLT, Nat.reduceLeDiff, Nat.reduceEqDiff, Nat.reduceSub, decide_true, true_and, and_true, and_self, if_true, if_false, Option.toList_some, Option.toList_none, List.cons_append, List.nil_append, qsL, qlong, List.length_cons, List.length_nil, iN_L, exI, iN_add, iN_mul, iN_le, iN_lt, iN_eq, Nat.le_refl, qfN0, qfN1, uX_16, vX_16, uX_19, vX_19, uX_27, vX_27, uX_30, vX_30, uX_39, vX_39, uX_41, vX_41, uX_43, vX_43, uX_46, vX_46, uX_50, vX_50, uX_53, vX_53, u16, ult, uF, g0, g1, g2, g3, g4, g5, g6, fc]
    rw [r2]
    -- the cells, kind by kind
    have row : ∀ (K : Nat) (x5 : Option Value), K < dmn bs i → (C ∈ cel bs i K → (qEv (d + 2) 0 qk_118 68 [some (.ref (sa i)), some (.ref r), some (.int (iN t)), some (.int (iN C)), some (.int (iN K)), x5] [] h R ↔ R = (some (.int (iN K)), h))) ∧ (C ∉ cel bs i K → ∃ y5, (qEv (d + 2) 0 qk_118 68 [some (.ref (sa i)), some (.ref r), some (.int (iN t)), some (.int (iN C)), some (.int (iN K)), x5] [] h R ↔ qEv (d + 2) 0 qk_118 68 [some (.ref (sa i)), some (.ref r), some (.int (iN t)), some (.int (iN C)), some (.int (iN (K + 1))), y5] [] h R)) := by
      intro K x5 hK
      have ceK := S.ce (K := K) (by omega)
      have clK := S.cl (K := K) (by omega)
      obtain ⟨b8, cb⟩ := P.2.2.2.2.1 K (by omega)
      have st : qEv (d + 2) 0 qk_118 68 [some (.ref (sa i)), some (.ref r), some (.int (iN t)), some (.int (iN C)), some (.int (iN K)), x5] [] h R ↔ qEv (d + 2) 0 qk_118 80 [some (.ref (sa i)), some (.ref r), some (.int (iN t)), some (.int (iN C)), some (.int (iN K)), some (.int (iN 0))] [] h R := by
        rw [e118_68]
        simp (disch := first | assumption | omega) only [e118_0, e118_1, e118_2, e118_3, e118_6, e118_7, e118_10, e118_11, e118_12, e118_13, e118_16, e118_17, e118_18, e118_20, e118_22, e118_23, e118_26, e118_29, e118_30, e118_32, e118_33, e118_34, e118_37, e118_38, e118_39, e118_42, e118_43, e118_44, e118_47, e118_48, e118_51, e118_52, e118_53, e118_54, e118_56, e118_57, e118_58, e118_59, e118_62, e118_65, e118_66, e118_70, e118_71, e118_74, e118_77, e118_78, e118_82, e118_83, e118_86, e118_88, e118_89, e118_90, e118_93, e118_94, e118_97, e118_99, e118_100, e118_102, e118_103, e118_104, e118_107, e118_109, e118_110, e118_113, e118_116, e118_119, e118_122, e118_123, e118_126, m118, ↓reduceIte, qg_0, qg_1, qg_2, qg_3, qg_4, qg_5, qg_6, qg_7, qg_8, qg_9, qg_10, qg_11, qg_12, qg_13, not_true_eq_false, not_false_eq_true, Nat.reduceBEq, Bool.false_eq_true, ex1, ex3, ex4, exF, qfit_i, qfit_l, qfit_r, qfit_n, qfit_b0, qfit_b1, qcat_i, qcat_r, qcat_n, qcat_l, qroom_0, qroom_c, List.map_cons, List.map_nil, List.sum_cons, List.sum_nil, Nat.reduceAdd, Nat.reduceMul, Nat.reduceLT, Nat.reduceLeDiff, Nat.reduceEqDiff, Nat.reduceSub, decide_true, true_and, and_true, and_self, if_true, if_false, Option.toList_some, Option.toList_none, List.cons_append, List.nil_append, qsL, qlong, List.length_cons, List.length_nil, iN_L, exI, iN_add, iN_mul, iN_le, iN_lt, iN_eq, Nat.le_refl, qfN0, qfN1, uX_16, vX_16, uX_19, vX_19, uX_27, vX_27, uX_30, vX_30, uX_39, vX_39, uX_41, vX_41, uX_43, vX_43, uX_46, vX_46, uX_50, vX_50, uX_53, vX_53, u16, ult, uF, g0, g1, g2, g3, g4, g5, g6, show ¬ dmn bs i ≤ K by omega]
      rw [st]
      have scan : ∀ (w' j : Nat), j + w' = (cel bs i K).length → (∀ u, u < j → (cel bs i K).getD u 0 ≠ C) → (C ∈ cel bs i K → (qEv (d + 2) 0 qk_118 80 [some (.ref (sa i)), some (.ref r), some (.int (iN t)), some (.int (iN C)), some (.int (iN K)), some (.int (iN j))] [] h R ↔ R = (some (.int (iN K)), h))) ∧ (C ∉ cel bs i K → (qEv (d + 2) 0 qk_118 80 [some (.ref (sa i)), some (.ref r), some (.int (iN t)), some (.int (iN C)), some (.int (iN K)), some (.int (iN j))] [] h R ↔ qEv (d + 2) 0 qk_118 68 [some (.ref (sa i)), some (.ref r), some (.int (iN t)), some (.int (iN C)), some (.int (iN (K + 1))), some (.int (iN ((cel bs i K).length)))] [] h R)) := by
        intro w'
        induction w' with
        | zero =>
          intro j hj hn
          have ej : j = (cel bs i K).length := by omega
          subst ej
          refine ⟨fun z => ?_, fun _ => ?_⟩
          · obtain ⟨u, u1, u2⟩ := nat_mem.mp z
            exact absurd u2 (hn u u1)
          · rw [e118_80]
            simp (disch := first | assumption | omega) only [e118_0, e118_1, e118_2, e118_3, e118_6, e118_7, e118_10, e118_11, e118_12, e118_13, e118_16, e118_17, e118_18, e118_20, e118_22, e118_23, e118_26, e118_29, e118_30, e118_32, e118_33, e118_34, e118_37, e118_38, e118_39, e118_42, e118_43, e118_44, e118_47, e118_48, e118_51, e118_52, e118_53, e118_54, e118_56, e118_57, e118_58, e118_59, e118_62, e118_65, e118_66, e118_70, e118_71, e118_74, e118_77, e118_78, e118_82, e118_83, e118_86, e118_88, e118_89, e118_90, e118_93, e118_94, e118_97, e118_99, e118_100, e118_102, e118_103, e118_104, e118_107, e118_109, e118_110, e118_113, e118_116, e118_119, e118_122, e118_123, e118_126, m118, ↓reduceIte, qg_0, qg_1, qg_2, qg_3, qg_4, qg_5, qg_6, qg_7, qg_8, qg_9, qg_10, qg_11, qg_12, qg_13, not_true_eq_false, not_false_eq_true, Nat.reduceBEq, Bool.false_eq_true, ex1, ex3, ex4, exF, qfit_i, qfit_l, qfit_r, qfit_n, qfit_b0, qfit_b1, qcat_i, qcat_r, qcat_n, qcat_l, qroom_0, qroom_c, List.map_cons, List.map_nil, List.sum_cons, List.sum_nil, Nat.reduceAdd, Nat.reduceMul, Nat.reduceLT, Nat.reduceLeDiff, Nat.reduceEqDiff, Nat.reduceSub, decide_true, true_and, and_true, and_self, if_true, if_false, Option.toList_some, Option.toList_none, List.cons_append, List.nil_append, qsL, qlong, List.length_cons, List.length_nil, iN_L, exI, iN_add, iN_mul, iN_le, iN_lt, iN_eq, Nat.le_refl, qfN0, qfN1, uX_16, vX_16, uX_19, vX_19, uX_27, vX_27, uX_30, vX_30, uX_39, vX_39, uX_41, vX_41, uX_43, vX_43, uX_46, vX_46, uX_50, vX_50, uX_53, vX_53, u16, ult, uF, g0, g1, g2, g3, g4, g5, g6, ceK, rf_some, clK]
        | succ w' ih =>
          intro j hj hn
          have hj' : j < (cel bs i K).length := by omega
          have ck := S.ck (K := K) (by omega) hj'
          have cbj := (cb j hj').2
          by_cases z : (cel bs i K).getD j 0 = C
          · refine ⟨fun _ => ?_, fun y => absurd (nat_mem.mpr ⟨j, hj', z⟩) y⟩
            rw [e118_80]
            simp (disch := first | assumption | omega) only [e118_0, e118_1, e118_2, e118_3, e118_6, e118_7, e118_10, e118_11, e118_12, e118_13, e118_16, e118_17, e118_18, e118_20, e118_22, e118_23, e118_26, e118_29, e118_30, e118_32, e118_33, e118_34, e118_37, e118_38, e118_39, e118_42, e118_43, e118_44, e118_47, e118_48, e118_51, e118_52, e118_53, e118_54, e118_56, e118_57, e118_58, e118_59, e118_62, e118_65, e118_66, e118_70, e118_71, e118_74, e118_77, e118_78, e118_82, e118_83, e118_86, e118_88, e118_89, e118_90, e118_93, e118_94, e118_97, e118_99, e118_100, e118_102, e118_103, e118_104, e118_107, e118_109, e118_110, e118_113, e118_116, e118_119, e118_122, e118_123, e118_126, m118, ↓reduceIte, qg_0, qg_1, qg_2, qg_3, qg_4, qg_5, qg_6, qg_7, qg_8, qg_9, qg_10, qg_11, qg_12, qg_13, not_true_eq_false, not_false_eq_true, Nat.reduceBEq, Bool.false_eq_true, ex1, ex3, ex4, exF, qfit_i, qfit_l, qfit_r, qfit_n, qfit_b0, qfit_b1, qcat_i, qcat_r, qcat_n, qcat_l, qroom_0, qroom_c, List.map_cons, List.map_nil, List.sum_cons, List.sum_nil, Nat.reduceAdd, Nat.reduceMul, Nat.reduceLT, Nat.reduceLeDiff, Nat.reduceEqDiff, Nat.reduceSub, decide_true, true_and, and_true, and_self, if_true, if_false, Option.toList_some, Option.toList_none, List.cons_append, List.nil_append, qsL, qlong, List.length_cons, List.length_nil, iN_L, exI, iN_add, iN_mul, iN_le, iN_lt, iN_eq, Nat.le_refl, qfN0, qfN1, uX_16, vX_16, uX_19, vX_19, uX_27, vX_27, uX_30, vX_30, uX_39, vX_39, uX_41, vX_41, uX_43, vX_43, uX_46, vX_46, uX_50, vX_50, uX_53, vX_53, u16, ult, uF, g0, g1, g2, g3, g4, g5, g6, ceK, rf_some, clK, show ¬ (cel bs i K).length ≤ j by omega, ck, z]
          · have sj : qEv (d + 2) 0 qk_118 80 [some (.ref (sa i)), some (.ref r), some (.int (iN t)), some (.int (iN C)), some (.int (iN K)), some (.int (iN j))] [] h R ↔ qEv (d + 2) 0 qk_118 80 [some (.ref (sa i)), some (.ref r), some (.int (iN t)), some (.int (iN C)), some (.int (iN K)), some (.int (iN (j + 1)))] [] h R := by
              rw [e118_80]
              simp (disch := first | assumption | omega) only [e118_0, e118_1, e118_2, e118_3, e118_6, e118_7, e118_10, e118_11, e118_12, e118_13, e118_16, e118_17, e118_18, e118_20, e118_22, e118_23, e118_26, e118_29, e118_30, e118_32, e118_33, e118_34, e118_37, e118_38, e118_39, e118_42, e118_43, e118_44, e118_47, e118_48, e118_51, e118_52, e118_53, e118_54, e118_56, e118_57, e118_58, e118_59, e118_62, e118_65, e118_66, e118_70, e118_71, e118_74, e118_77, e118_78, e118_82, e118_83, e118_86, e118_88, e118_89, e118_90, e118_93, e118_94, e118_97, e118_99, e118_100, e118_102, e118_103, e118_104, e118_107, e118_109, e118_110, e118_113, e118_116, e118_119, e118_122, e118_123, e118_126, m118, ↓reduceIte, qg_0, qg_1, qg_2, qg_3, qg_4, qg_5, qg_6, qg_7, qg_8, qg_9, qg_10, qg_11, qg_12, qg_13, not_true_eq_false, not_false_eq_true, Nat.reduceBEq, Bool.false_eq_true, ex1, ex3, ex4, exF, qfit_i, qfit_l, qfit_r, qfit_n, qfit_b0, qfit_b1, qcat_i, qcat_r, qcat_n, qcat_l, qroom_0, qroom_c, List.map_cons, List.map_nil, List.sum_cons, List.sum_nil, Nat.reduceAdd, Nat.reduceMul, Nat.reduceLT, Nat.reduceLeDiff, Nat.reduceEqDiff, Nat.reduceSub, decide_true, true_and, and_true, and_self, if_true, if_false, Option.toList_some, Option.toList_none, List.cons_append, List.nil_append, qsL, qlong, List.length_cons, List.length_nil, iN_L, exI, iN_add, iN_mul, iN_le, iN_lt, iN_eq, Nat.le_refl, qfN0, qfN1, uX_16, vX_16, uX_19, vX_19, uX_27, vX_27, uX_30, vX_30, uX_39, vX_39, uX_41, vX_41, uX_43, vX_43, uX_46, vX_46, uX_50, vX_50, uX_53, vX_53, u16, ult, uF, g0, g1, g2, g3, g4, g5, g6, ceK, rf_some, clK, show ¬ (cel bs i K).length ≤ j by omega, ck, z]
            rw [sj]
            exact ih (j + 1) (by omega) (fun u hu => by
              rcases Nat.lt_or_ge u j with y | y
              · exact hn u y
              · rw [show u = j by omega]; exact z)
      obtain ⟨s1, s2⟩ := scan (cel bs i K).length 0 (by omega) (fun u hu => absurd hu (Nat.not_lt_zero u))
      exact ⟨s1, fun z => ⟨_, s2 z⟩⟩
    have go : ∀ (w' K : Nat) (x5 : Option Value), K + w' = dmn bs i → (∀ K', K' < K → C ∉ cel bs i K') → (qEv (d + 2) 0 qk_118 68 [some (.ref (sa i)), some (.ref r), some (.int (iN t)), some (.int (iN C)), some (.int (iN K)), x5] [] h R ↔ R = (some (.int v), h)) := by
      intro w'
      induction w' with
      | zero =>
        intro K x5 hK hn
        have ve : v = iN (dmn bs i) := by
          rcases hv with ⟨z, -⟩ | ⟨-, z⟩ | ⟨-, -, k, ⟨k1, k2, -⟩, -⟩
          · exact absurd z hout
          · exact z
          · exact absurd k2 (by rw [← eZ, ← eC]; exact hn k (by omega))
        rw [ve, e118_68]
        simp (disch := first | assumption | omega) only [e118_0, e118_1, e118_2, e118_3, e118_6, e118_7, e118_10, e118_11, e118_12, e118_13, e118_16, e118_17, e118_18, e118_20, e118_22, e118_23, e118_26, e118_29, e118_30, e118_32, e118_33, e118_34, e118_37, e118_38, e118_39, e118_42, e118_43, e118_44, e118_47, e118_48, e118_51, e118_52, e118_53, e118_54, e118_56, e118_57, e118_58, e118_59, e118_62, e118_65, e118_66, e118_70, e118_71, e118_74, e118_77, e118_78, e118_80, e118_82, e118_83, e118_86, e118_88, e118_89, e118_90, e118_93, e118_94, e118_97, e118_99, e118_100, e118_102, e118_103, e118_104, e118_107, e118_109, e118_110, e118_113, e118_116, e118_119, e118_122, e118_123, e118_126, m118, ↓reduceIte, qg_0, qg_1, qg_2, qg_3, qg_4, qg_5, qg_6, qg_7, qg_8, qg_9, qg_10, qg_11, qg_12, qg_13, not_true_eq_false, not_false_eq_true, Nat.reduceBEq, Bool.false_eq_true, ex1, ex3, ex4, exF, qfit_i, qfit_l, qfit_r, qfit_n, qfit_b0, qfit_b1, qcat_i, qcat_r, qcat_n, qcat_l, qroom_0, qroom_c, List.map_cons, List.map_nil, List.sum_cons, List.sum_nil, Nat.reduceAdd, Nat.reduceMul, Nat.reduceLT, Nat.reduceLeDiff, Nat.reduceEqDiff, Nat.reduceSub, decide_true, true_and, and_true, and_self, if_true, if_false, Option.toList_some, Option.toList_none, List.cons_append, List.nil_append, qsL, qlong, List.length_cons, List.length_nil, iN_L, exI, iN_add, iN_mul, iN_le, iN_lt, iN_eq, Nat.le_refl, qfN0, qfN1, uX_16, vX_16, uX_19, vX_19, uX_27, vX_27, uX_30, vX_30, uX_39, vX_39, uX_41, vX_41, uX_43, vX_43, uX_46, vX_46, uX_50, vX_50, uX_53, vX_53, u16, ult, uF, g0, g1, g2, g3, g4, g5, g6, show dmn bs i ≤ K by omega]
      | succ w' ih =>
        intro K x5 hK hn
        obtain ⟨t1, t2⟩ := row K x5 (by omega)
        by_cases z : C ∈ cel bs i K
        · rw [t1 z]
          have ve : v = iN K := by
            rcases hv with ⟨y, -⟩ | ⟨y, -⟩ | ⟨-, -, k, ⟨k1, k2, k3⟩, e⟩
            · exact absurd y hout
            · have : C = 2 ^ (cnr bs i).length - 1 := by
                rw [eC, mask_all]
                unfold comS
                refine mask_ext fun c _ => allN_iff.mpr fun j hj => ?_
                have hZ : Z j = false := by rw [eZ]; exact decide_eq_false (by have := y j hj; omega)
                rw [hZ]; rfl
              exact absurd this (pr K C z)
            · rw [← eZ, ← eC] at k2 k3
              have : k = K := by
                rcases Nat.lt_trichotomy k K with y | y | y
                · exact absurd k2 (hn k y)
                · exact y
                · exact absurd z (k3 K y)
              rw [e, this]
          rw [ve]
        · obtain ⟨y5, ry⟩ := t2 z
          rw [ry]
          exact ih (K + 1) y5 (by omega) (fun K' hK' => by
            rcases Nat.lt_or_ge K' K with y | y
            · exact hn K' y
            · rw [show K' = K by omega]; exact z)
    exact go (dmn bs i) 0 _ (by omega) (fun K' hK' => absurd hK' (Nat.not_lt_zero K'))
set_option maxRecDepth 100000 in
set_option maxHeartbeats 16000000 in
theorem x_where {dr : List pt4} {x v : Int32} (s : ShX h) (X : BsX h bs sa) (dv : DrX h dr) (hv : whrR bs dr x v) : qMC (d + 4) 165 [.ref 16, .int x] h R ↔ R = (some (.int v), h) := by
  have m3 := dv.2.1
  have d16 := dv.1
  rcases hv with ⟨hx, rfl⟩ | ⟨i, ⟨hi', rfl⟩, hv⟩
  · have b : ∀ R, qMC (d + 3) 179 [.ref 16, .int x] h R ↔ R = (some .null, h) := fun R => x_bodyAt0 s X hx
    simp (disch := first | assumption | omega) only [e165_0, e165_1, e165_2, e165_5, e165_6, e165_7, e165_7N, e165_10, e165_13, e165_14, e165_15, e165_18, e165_21, e165_24, e165_27, e165_28, e165_29, e165_32, e165_33, e165_36, e165_39, m165, ↓reduceIte, qg_0, qg_1, qg_2, qg_3, qg_4, qg_5, qg_6, qg_7, qg_8, qg_9, qg_10, qg_11, qg_12, qg_13, not_true_eq_false, not_false_eq_true, Nat.reduceBEq, Bool.false_eq_true, ex1, ex3, ex4, exF, qfit_i, qfit_l, qfit_r, qfit_n, qfit_b0, qfit_b1, qcat_i, qcat_r, qcat_n, qcat_l, qroom_0, qroom_c, List.map_cons, List.map_nil, List.sum_cons, List.sum_nil, Nat.reduceAdd, Nat.reduceMul, Nat.reduceLT, Nat.reduceLeDiff, Nat.reduceEqDiff, Nat.reduceSub, decide_true, true_and, and_true, and_self, if_true, if_false, Option.toList_some, Option.toList_none, List.cons_append, List.nil_append, qsL, qlong, List.length_cons, List.length_nil, iN_L, exI, iN_add, iN_mul, iN_le, iN_lt, iN_eq, Nat.le_refl, qfN0, qfN1, uX_16, vX_16, uX_19, vX_19, uX_27, vX_27, uX_30, vX_30, uX_39, vX_39, uX_41, vX_41, uX_43, vX_43, uX_46, vX_46, uX_50, vX_50, uX_53, vX_53, b]
  · have b : ∀ R, qMC (d + 3) 179 [.ref 16, .int (iN i)] h R ↔ R = (some (.ref (sa i)), h) := fun R => x_bodyAt1 s X hi'
    obtain ⟨pp, q, w, e, B, Q, S, P, V⟩ := X.q hi'
    obtain ⟨⟨u16, ult, uF⟩, g0, g1, g2, g3, g4, g5, g6⟩ := S.obj
    obtain ⟨⟨ok, so⟩, -⟩ := X.2.2.2 i hi'
    rcases hv with ⟨h0, rfl⟩ | ⟨h0, Qv, pl, hv⟩
    · simp (disch := first | assumption | omega) only [e165_0, e165_1, e165_2, e165_5, e165_6, e165_7, e165_7N, e165_10, e165_13, e165_14, e165_15, e165_18, e165_21, e165_24, e165_27, e165_28, e165_29, e165_32, e165_33, e165_36, e165_39, m165, ↓reduceIte, qg_0, qg_1, qg_2, qg_3, qg_4, qg_5, qg_6, qg_7, qg_8, qg_9, qg_10, qg_11, qg_12, qg_13, not_true_eq_false, not_false_eq_true, Nat.reduceBEq, Bool.false_eq_true, ex1, ex3, ex4, exF, qfit_i, qfit_l, qfit_r, qfit_n, qfit_b0, qfit_b1, qcat_i, qcat_r, qcat_n, qcat_l, qroom_0, qroom_c, List.map_cons, List.map_nil, List.sum_cons, List.sum_nil, Nat.reduceAdd, Nat.reduceMul, Nat.reduceLT, Nat.reduceLeDiff, Nat.reduceEqDiff, Nat.reduceSub, decide_true, true_and, and_true, and_self, if_true, if_false, Option.toList_some, Option.toList_none, List.cons_append, List.nil_append, qsL, qlong, List.length_cons, List.length_nil, iN_L, exI, iN_add, iN_mul, iN_le, iN_lt, iN_eq, Nat.le_refl, qfN0, qfN1, uX_16, vX_16, uX_19, vX_19, uX_27, vX_27, uX_30, vX_30, uX_39, vX_39, uX_41, vX_41, uX_43, vX_43, uX_46, vX_46, uX_50, vX_50, uX_53, vX_53, b, gX_16_3, m3, h0]
    · have fb : ∀ R, qMC (d + 3) 118 [.ref (sa i), .ref 18, .int (iN ((dr.length - 1) * 4))] h R ↔ R = (some (.int v), h) := fun R => x_cellAround (fun K y hy => by
        have := cel_part ok so hy
        rw [show (cnr bs i).length = ncr (bs.getD i b0).1 (dmn bs i) from crn_len _ _]
        exact this) S P V (dv.sp s h0) (by omega) (whrZ_sg (fun j hj => sg_all X hi' V pl (lstP dr) hj) hv)
      have ld : ∀ R, qMC (d + 3) 180 [.ref 16] h R ↔ _ := fun R => x_lastDraft s dv h0
      simp (disch := first | assumption | omega) only [e165_0, e165_1, e165_2, e165_5, e165_6, e165_7, e165_7N, e165_10, e165_13, e165_14, e165_15, e165_18, e165_21, e165_24, e165_27, e165_28, e165_29, e165_32, e165_33, e165_36, e165_39, m165, ↓reduceIte, qg_0, qg_1, qg_2, qg_3, qg_4, qg_5, qg_6, qg_7, qg_8, qg_9, qg_10, qg_11, qg_12, qg_13, not_true_eq_false, not_false_eq_true, Nat.reduceBEq, Bool.false_eq_true, ex1, ex3, ex4, exF, qfit_i, qfit_l, qfit_r, qfit_n, qfit_b0, qfit_b1, qcat_i, qcat_r, qcat_n, qcat_l, qroom_0, qroom_c, List.map_cons, List.map_nil, List.sum_cons, List.sum_nil, Nat.reduceAdd, Nat.reduceMul, Nat.reduceLT, Nat.reduceLeDiff, Nat.reduceEqDiff, Nat.reduceSub, decide_true, true_and, and_true, and_self, if_true, if_false, Option.toList_some, Option.toList_none, List.cons_append, List.nil_append, qsL, qlong, List.length_cons, List.length_nil, iN_L, exI, iN_add, iN_mul, iN_le, iN_lt, iN_eq, Nat.le_refl, qfN0, qfN1, uX_16, vX_16, uX_19, vX_19, uX_27, vX_27, uX_30, vX_30, uX_39, vX_39, uX_41, vX_41, uX_43, vX_43, uX_46, vX_46, uX_50, vX_50, uX_53, vX_53, b, gX_16_3, m3, show ¬ dr.length = 0 by omega, gX_16_2, ld, u16, ult, uF, g0, g1, g2, g3, g4, g5, g6, fb]
end XCELL

/-! ===== THE REFERENCE: read, fault, claim ===== -/
section DOR
variable {d : Nat} {h : qH} {tx : List Nat} {bs : List bdy} {cm : List clm}
def exA : List Nat := [56, 57, 58, 59, 60, 61, 62, 63, 64, 65, 66, 67, 68, 69, 71, 72, 73, 74, 94]
def exJ : List Nat := [0, 8, 9, 11, 18, 54]
theorem getD_pre {α : Type} {a b : List α} {x z : α} : (a ++ x :: b).getD a.length z = x := by
  rw [List.getD_eq_getElem?_getD, List.getElem?_append_right (Nat.le_refl _), Nat.sub_self]; rfl
/-- claimOf[4 claims ..] = freshClaim[4 claimed ..]: four numbers -/
def cpP (h0 h : qH) (t u : Nat) (f : Nat → Int32) (L5 : Nat → qL) : Nat → qL → qH → Prop := fun k L h' => L = L5 k ∧ Ch [94] [] h h' ∧ ∀ j, hi h' 94 j = if 4 * t ≤ j ∧ j < 4 * t + k then f (j - 4 * t) else hi h 94 j
set_option maxRecDepth 100000 in
set_option maxHeartbeats 16000000 in
theorem rd_copy {t u j0 : Nat} {c : clm} (s : ShM h) (ht : t < 8) (hu : u < 8) (m54 : mi h 54 = iN t) (v : ∀ j, j < 4 → hi h 96 (4 * u + j) = cmI c j) : ∃ h', (∀ R, qEv (d + 6) 0 qk_304 90 [some (.ref 55), some (.int (iN 0)), some (.int (iN j0)), some (.int (iN u)), some (.int (iN 1)), some (.int (iN 0))] [] h R ↔ qEv (d + 6) 0 qk_304 62 [some (.ref 55), some (.int (iN 0)), some (.int (iN (j0 + 1))), some (.int (iN (u + 1))), some (.int (iN 1)), some (.int (iN 4))] [] h' R) ∧ Ch [94] [54] h h' ∧ mi h' 54 = iN (t + 1) ∧ ∀ j, hi h' 94 j = if 4 * t ≤ j ∧ j < 4 * t + 4 then cmI c (j - 4 * t) else hi h 94 j := by
  obtain ⟨L2, h2, ⟨rfl, c2, v2⟩, r⟩ := loop_inv (d := d + 6) (rt := 0) (K := qk_304) (pc := 90) (P := cpP h h t u (cmI c) (fun k => [some (.ref 55), some (.int (iN 0)), some (.int (iN j0)), some (.int (iN u)), some (.int (iN 1)), some (.int (iN k))])) (n := 4) (fun k L h1 hk hP => by
    obtain ⟨rfl, c1, v1⟩ := hP
    have s1 := c1.sh
    have m1 : mi h1 54 = iN t := by rw [c1.mi (by decide)]; exact m54
    have vk : hi h1 96 (4 * u + k) = cmI c k := by rw [c1.hi (by decide) (by decide)]; exact v k hk
    obtain ⟨g, eg⟩ : ∃ g, g = sI h1 94 (upd (hi h1 94) (4 * t + k) (cmI c k)) := ⟨_, rfl⟩
    have cg : Ch [94] [] h g := c1.trans (by rw [eg]; exact Ch.rowI s1 (kM_94 s1) (by decide))
    have w1 : qiast h1 94 (iN (4 * t + k)) (cmI c k) = some g := by rw [eg]; exact wM_94 s1 (by omega)
    refine ⟨_, g, ⟨rfl, cg, fun j => ?_⟩, fun R => ?_⟩
    · rw [eg, hi_sI, if_pos rfl, upd_at]
      by_cases e : j = 4 * t + k
      · rw [if_pos e, if_pos (by omega), e]; congr 1; omega
      · rw [if_neg e, v1 j]
        by_cases e2 : 4 * t ≤ j ∧ j < 4 * t + k
        · rw [if_pos e2, if_pos (by omega)]
        · rw [if_neg e2, if_neg (by omega)]
    · dsimp only
      rw [e304_90]
      simp (disch := first | assumption | omega) only [e304_0, e304_1, e304_2, e304_5, e304_6, e304_7, e304_10, e304_11, e304_12, e304_15, e304_16, e304_17, e304_20, e304_21, e304_22, e304_23, e304_26, e304_27, e304_30, e304_33, e304_34, e304_37, e304_38, e304_41, e304_42, e304_43, e304_46, e304_47, e304_50, e304_52, e304_53, e304_54, e304_55, e304_56, e304_57, e304_58, e304_59, e304_60, e304_64, e304_67, e304_68, e304_69, e304_72, e304_75, e304_76, e304_79, e304_80, e304_81, e304_82, e304_83, e304_84, e304_87, e304_88, e304_92, e304_93, e304_96, e304_97, e304_100, e304_101, e304_102, e304_105, e304_106, e304_108, e304_109, e304_110, e304_113, e304_114, e304_115, e304_116, e304_118, e304_119, e304_120, e304_121, e304_124, e304_127, e304_128, e304_129, e304_132, e304_133, e304_134, e304_137, e304_140, e304_143, e304_144, e304_145, e304_148, e304_149, e304_150, e304_151, e304_152, e304_153, e304_156, e304_157, e304_158, e304_159, e304_160, e304_161, e304_162, e304_163, e304_166, e304_167, e304_168, e304_169, e304_170, e304_171, e304_172, e304_175, e304_177, e304_178, e304_180, e304_183, e304_184, e304_187, e304_188, e304_189, e304_190, e304_193, e304_194, m304, ↓reduceIte, qg_0, qg_1, qg_2, qg_3, qg_4, qg_5, qg_6, qg_7, qg_8, qg_9, qg_10, qg_11, qg_12, qg_13, not_true_eq_false, not_false_eq_true, Nat.reduceBEq, Bool.false_eq_true, ex1, ex3, ex4, exF, qfit_i, qfit_l, qfit_r, qfit_n, qfit_b0, qfit_b1, qcat_i, qcat_r, qcat_n, qcat_l, qroom_0, qroom_c, List.map_cons, List.map_nil, List.sum_cons, List.sum_nil, Nat.reduceAdd, Nat.reduceMul, Nat.reduceLT, Nat.reduceLeDiff, Nat.reduceEqDiff, Nat.reduceSub, decide_true, true_and, and_true, and_self, if_true, if_false, Option.toList_some, Option.toList_none, List.cons_append, List.nil_append, qsL, qlong, List.length_cons, List.length_nil, iN_L, vM1, vM2, exI, iN_add, iN_mul, iN_le, iN_lt, iN_eq, Nat.le_refl, qfN0, qfN1, show ¬ 4 ≤ k by omega, gM_55, gM_54, m1, gM_59, rM_96, vk, w1]) (L := [some (.ref 55), some (.int (iN 0)), some (.int (iN j0)), some (.int (iN u)), some (.int (iN 1)), some (.int (iN 0))]) (h := h) ⟨rfl, Ch.refl s, fun j => by rw [if_neg (by omega)]⟩
  have s2 := c2.sh
  have m2 : mi h2 54 = iN t := by rw [c2.mi (by decide)]; exact m54
  obtain ⟨g, eg⟩ : ∃ g, g = mI h2 54 (iN (t + 1)) := ⟨_, rfl⟩
  have cg : Ch [94] [54] h g := (c2.mono (by decide) (by decide)).trans (by rw [eg]; exact Ch.setI s2 (by decide) (by decide))
  have p1 : qput h2 55 11 54 (.int (iN (t + 1))) = some g := by rw [eg]; exact pM_54 s2
  refine ⟨g, fun R => ?_, cg, by rw [eg, mi_mI, if_pos rfl], fun j => by rw [eg, hi_mI s2]; exact v2 j⟩
  rw [r R]
  dsimp only
  rw [e304_90]
  simp (disch := first | assumption | omega) only [e304_0, e304_1, e304_2, e304_5, e304_6, e304_7, e304_10, e304_11, e304_12, e304_15, e304_16, e304_17, e304_20, e304_21, e304_22, e304_23, e304_26, e304_27, e304_30, e304_33, e304_34, e304_37, e304_38, e304_41, e304_42, e304_43, e304_46, e304_47, e304_50, e304_52, e304_53, e304_54, e304_55, e304_56, e304_57, e304_58, e304_59, e304_60, e304_64, e304_67, e304_68, e304_69, e304_72, e304_75, e304_76, e304_79, e304_80, e304_81, e304_82, e304_83, e304_84, e304_87, e304_88, e304_92, e304_93, e304_96, e304_97, e304_100, e304_101, e304_102, e304_105, e304_106, e304_108, e304_109, e304_110, e304_113, e304_114, e304_115, e304_116, e304_118, e304_119, e304_120, e304_121, e304_124, e304_127, e304_128, e304_129, e304_132, e304_133, e304_134, e304_137, e304_140, e304_143, e304_144, e304_145, e304_148, e304_149, e304_150, e304_151, e304_152, e304_153, e304_156, e304_157, e304_158, e304_159, e304_160, e304_161, e304_162, e304_163, e304_166, e304_167, e304_168, e304_169, e304_170, e304_171, e304_172, e304_175, e304_177, e304_178, e304_180, e304_183, e304_184, e304_187, e304_188, e304_189, e304_190, e304_193, e304_194, m304, ↓reduceIte, qg_0, qg_1, qg_2, qg_3, qg_4, qg_5, qg_6, qg_7, qg_8, qg_9, qg_10, qg_11, qg_12, qg_13, not_true_eq_false, not_false_eq_true, Nat.reduceBEq, Bool.false_eq_true, ex1, ex3, ex4, exF, qfit_i, qfit_l, qfit_r, qfit_n, qfit_b0, qfit_b1, qcat_i, qcat_r, qcat_n, qcat_l, qroom_0, qroom_c, List.map_cons, List.map_nil, List.sum_cons, List.sum_nil, Nat.reduceAdd, Nat.reduceMul, Nat.reduceLT, Nat.reduceLeDiff, Nat.reduceEqDiff, Nat.reduceSub, decide_true, true_and, and_true, and_self, if_true, if_false, Option.toList_some, Option.toList_none, List.cons_append, List.nil_append, qsL, qlong, List.length_cons, List.length_nil, iN_L, vM1, vM2, exI, iN_add, iN_mul, iN_le, iN_lt, iN_eq, Nat.le_refl, qfN0, qfN1, gM_54, m2, p1, iN10]
theorem exRun_c {c : clm} {l : List cls4} : exRun (.inr c :: l) bs cm = ((exRun l bs (cm ++ [c])).1 + 1, (exRun l bs (cm ++ [c])).2) := rfl
theorem exRun_f {k n m : Nat} {l : List cls4} (e : bs.length = 24) : exRun (.inl (k, n, m) :: l) bs cm = (0, bs, cm) := by rw [exRun, if_pos e]
theorem exRun_b {k n m : Nat} {l : List cls4} (e : ¬ bs.length = 24) : exRun (.inl (k, n, m) :: l) bs cm = ((exRun l (bs ++ [(tellAll n [] (shp k n m), n, 1)]) cm).1 + 1, (exRun l (bs ++ [(tellAll n [] (shp k n m), n, 1)]) cm).2) := by rw [exRun, if_neg e]
set_option maxRecDepth 100000 in
set_option maxHeartbeats 16000000 in
theorem rd_do (gg : geo) {cs : List cls4} {h0 : qH} (vc : CcV h0 cs) (vf : FcV h0 (cs.flatMap clmOf)) (hc : cs.length ≤ 26) : ∀ (l pre : List cls4) (bs : List bdy) (cm : List clm) (h1 : qH) (x5 : Option Value), cs = pre ++ l → (∀ x ∈ l, clG x) → cm.length + (l.flatMap clmOf).length ≤ 8 → Ch exA exJ h0 h1 → BsM h1 bs → CmV h1 cm → ∃ h', (∀ R, qEv (d + 6) 0 qk_304 62 [some (.ref 55), some (.int (iN 0)), some (.int (iN pre.length)), some (.int (iN ((pre.flatMap clmOf).length))), some (.int (iN 1)), x5] [] h1 R ↔ R = (some (.int (iN (pre.length + (exRun l bs cm).1))), h')) ∧ Ch exA exJ h0 h' ∧ BsM h' (exRun l bs cm).2.1 ∧ CmV h' (exRun l bs cm).2.2 ∧ hi h' 70 = hi h1 70 ∧ mi h' 18 = mi h1 18 := by
  have f8 := vf.1.1
  intro l
  induction l with
  | nil =>
    intro pre bs cm h1 x5 hp hg h8 c1 B v
    have s1 := c1.sh
    rw [List.append_nil] at hp
    have m56 : mi h1 56 = iN pre.length := by rw [c1.mi (by decide), ← hp]; exact vc.1
    have hpl : pre.length ≤ 26 := by rw [← hp]; exact hc
    refine ⟨h1, fun R => ?_, c1, B, v, rfl, rfl⟩
    rw [e304_62]
    simp (disch := first | assumption | omega) only [e304_0, e304_1, e304_2, e304_5, e304_6, e304_7, e304_10, e304_11, e304_12, e304_15, e304_16, e304_17, e304_20, e304_21, e304_22, e304_23, e304_26, e304_27, e304_30, e304_33, e304_34, e304_37, e304_38, e304_41, e304_42, e304_43, e304_46, e304_47, e304_50, e304_52, e304_53, e304_54, e304_55, e304_56, e304_57, e304_58, e304_59, e304_60, e304_64, e304_67, e304_68, e304_69, e304_72, e304_75, e304_76, e304_79, e304_80, e304_81, e304_82, e304_83, e304_84, e304_87, e304_88, e304_92, e304_93, e304_96, e304_97, e304_100, e304_101, e304_102, e304_105, e304_106, e304_108, e304_109, e304_110, e304_113, e304_114, e304_115, e304_116, e304_118, e304_119, e304_120, e304_121, e304_124, e304_127, e304_128, e304_129, e304_132, e304_133, e304_134, e304_137, e304_140, e304_143, e304_144, e304_145, e304_148, e304_149, e304_150, e304_151, e304_152, e304_153, e304_156, e304_157, e304_158, e304_159, e304_160, e304_161, e304_162, e304_163, e304_166, e304_167, e304_168, e304_169, e304_170, e304_171, e304_172, e304_175, e304_177, e304_178, e304_180, e304_183, e304_184, e304_187, e304_188, e304_189, e304_190, e304_193, e304_194, m304, ↓reduceIte, qg_0, qg_1, qg_2, qg_3, qg_4, qg_5, qg_6, qg_7, qg_8, qg_9, qg_10, qg_11, qg_12, qg_13, not_true_eq_false, not_false_eq_true, Nat.reduceBEq, Bool.false_eq_true, ex1, ex3, ex4, exF, qfit_i, qfit_l, qfit_r, qfit_n, qfit_b0, qfit_b1, qcat_i, qcat_r, qcat_n, qcat_l, qroom_0, qroom_c, List.map_cons, List.map_nil, List.sum_cons, List.sum_nil, Nat.reduceAdd, Nat.reduceMul, Nat.reduceLT, Nat.reduceLeDiff, Nat.reduceEqDiff, Nat.reduceSub, decide_true, true_and, and_true, and_self, if_true, if_false, Option.toList_some, Option.toList_none, List.cons_append, List.nil_append, qsL, qlong, List.length_cons, List.length_nil, iN_L, vM1, vM2, exI, iN_add, iN_mul, iN_le, iN_lt, iN_eq, Nat.le_refl, qfN0, qfN1, iN10, gM_56, m56, show exRun [] bs cm = (0, bs, cm) from rfl, Nat.add_zero]
  | cons x l ih =>
    intro pre bs cm h1 x5 hp hg h8 c1 B v
    have s1 := c1.sh
    have hlen : cs.length = pre.length + (l.length + 1) := by rw [hp, List.length_append, List.length_cons]
    have m56 : mi h1 56 = iN cs.length := by rw [c1.mi (by decide)]; exact vc.1
    have hx : cs.getD pre.length l0c = x := by rw [hp]; exact getD_pre
    have vx0 := vc.2 pre.length (by omega)
    rw [hx] at vx0
    have vx : clsV h1 pre.length x := vx0.keep fun j _ => by rw [c1.hi (by decide) (by decide)]
    have hp' : cs = (pre ++ [x]) ++ l := by rw [List.append_assoc, List.singleton_append]; exact hp
    have pl' : (pre ++ [x]).length = pre.length + 1 := by rw [List.length_append, List.length_singleton]
    have hg' : ∀ y ∈ l, clG y := fun y hy => hg y (List.mem_cons_of_mem _ hy)
    have gx := hg x List.mem_cons_self
    match x, vx, gx, hp, hp', pl', h8 with
    | .inr c, vx, gx, hp, hp', pl', h8 =>
      have k4 : hi h1 95 (3 * pre.length) = iN 4 := vx
      have fl : cs.flatMap clmOf = pre.flatMap clmOf ++ (c :: l.flatMap clmOf) := by rw [hp, List.flatMap_append, List.flatMap_cons]; rfl
      have fl2 : ((pre ++ [Sum.inr c]).flatMap clmOf).length = (pre.flatMap clmOf).length + 1 := by rw [List.flatMap_append, List.length_append]; rfl
      have hu : (pre.flatMap clmOf).length < 8 := by rw [fl, List.length_append, List.length_cons] at f8; omega
      have h8' : cm.length + ((l.flatMap clmOf).length + 1) ≤ 8 := by
        have := h8
        rw [List.flatMap_cons, List.length_append] at this
        have e1 : (clmOf (.inr c)).length = 1 := rfl
        omega
      have vf1 : ∀ j, j < 4 → hi h1 96 (4 * (pre.flatMap clmOf).length + j) = cmI c j := by
        intro j hj
        have := vf.1.2 (pre.flatMap clmOf).length (by rw [fl, List.length_append, List.length_cons]; omega) j hj
        rw [fl, getD_pre] at this
        rw [c1.hi (by decide) (by decide)]
        exact this
      obtain ⟨g, rg, cg, mg, hg4⟩ := rd_copy (d := d) (j0 := pre.length) s1 (show cm.length < 8 by omega) hu v.2 vf1
      have vg : CmV g (cm ++ [c]) := by
        refine ⟨v.1.snoc (by omega) ?_ ?_ ?_ ?_ (fun k hk => by rw [hg4, if_neg (by omega)]), by rw [mg, List.length_append, List.length_singleton]⟩
        · rw [hg4, if_pos (by omega), Nat.sub_self]; rfl
        · rw [hg4, if_pos (by omega), Nat.add_sub_cancel_left]; rfl
        · rw [hg4, if_pos (by omega), Nat.add_sub_cancel_left]; rfl
        · rw [hg4, if_pos (by omega), Nat.add_sub_cancel_left]; rfl
      obtain ⟨h', r', c', B', v', e1, e2⟩ := ih (pre ++ [.inr c]) bs (cm ++ [c]) g (some (.int (iN 4))) hp' hg' (by rw [List.length_append, List.length_singleton]; omega) (c1.trans (cg.mono (by decide) (by decide))) (B.ch cg (by decide) (by decide)) vg
      rw [pl', fl2] at r'
      refine ⟨h', fun R => ?_, c', B', v', by rw [e1, cg.hi (by decide) (by decide)], by rw [e2, cg.mi (by decide)]⟩
      rw [exRun_c, show pre.length + ((exRun l bs (cm ++ [c])).1 + 1, (exRun l bs (cm ++ [c])).2).1 = pre.length + 1 + (exRun l bs (cm ++ [c])).1 by dsimp only; omega, ← r' R, ← rg R, e304_62]
      simp (disch := first | assumption | omega) only [e304_0, e304_1, e304_2, e304_5, e304_6, e304_7, e304_10, e304_11, e304_12, e304_15, e304_16, e304_17, e304_20, e304_21, e304_22, e304_23, e304_26, e304_27, e304_30, e304_33, e304_34, e304_37, e304_38, e304_41, e304_42, e304_43, e304_46, e304_47, e304_50, e304_52, e304_53, e304_54, e304_55, e304_56, e304_57, e304_58, e304_59, e304_60, e304_64, e304_67, e304_68, e304_69, e304_72, e304_75, e304_76, e304_79, e304_80, e304_81, e304_82, e304_83, e304_84, e304_87, e304_88, e304_92, e304_93, e304_96, e304_97, e304_100, e304_101, e304_102, e304_105, e304_106, e304_108, e304_109, e304_110, e304_113, e304_114, e304_115, e304_116, e304_118, e304_119, e304_120, e304_121, e304_124, e304_127, e304_128, e304_129, e304_132, e304_133, e304_134, e304_137, e304_140, e304_143, e304_144, e304_145, e304_148, e304_149, e304_150, e304_151, e304_152, e304_153, e304_156, e304_157, e304_158, e304_159, e304_160, e304_161, e304_162, e304_163, e304_166, e304_167, e304_168, e304_169, e304_170, e304_171, e304_172, e304_175, e304_177, e304_178, e304_180, e304_183, e304_184, e304_187, e304_188, e304_189, e304_190, e304_193, e304_194, m304, ↓reduceIte, qg_0, qg_1, qg_2, qg_3, qg_4, qg_5, qg_6, qg_7, qg_8, qg_9, qg_10, qg_11, qg_12, qg_13, not_true_eq_false, not_false_eq_true, Nat.reduceBEq, Bool.false_eq_true, ex1, ex3, ex4, exF, qfit_i, qfit_l, qfit_r, qfit_n, qfit_b0, qfit_b1, qcat_i, qcat_r, qcat_n, qcat_l, qroom_0, qroom_c, List.map_cons, List.map_nil, List.sum_cons, List.sum_nil, Nat.reduceAdd, Nat.reduceMul, Nat.reduceLT, Nat.reduceLeDiff, Nat.reduceEqDiff, Nat.reduceSub, decide_true, true_and, and_true, and_self, if_true, if_false, Option.toList_some, Option.toList_none, List.cons_append, List.nil_append, qsL, qlong, List.length_cons, List.length_nil, iN_L, vM1, vM2, exI, iN_add, iN_mul, iN_le, iN_lt, iN_eq, Nat.le_refl, qfN0, qfN1, iN10, gM_56, m56, show ¬ cs.length ≤ pre.length by omega, gM_57, rM_95, k4]
    | .inl (k, n, m), ⟨k1, k2, k3⟩, gx, hp, hp', pl', h8 =>
      have gx' : shpG k n m := gx
      have hk3 := gx'.2.1
      have fl2 : ((pre ++ [Sum.inl (k, n, m)]).flatMap clmOf).length = (pre.flatMap clmOf).length := by rw [List.flatMap_append, List.length_append]; rfl
      obtain ⟨b, g, bs', rg, cg, Bg, mk, e70, e18⟩ := s_makes (d := d) gg (x := hi h1 95 (3 * pre.length + 2)) s1 B gx' k3
      have h8' : cm.length + (l.flatMap clmOf).length ≤ 8 := h8
      have cg' : Ch exA exJ h0 g := c1.trans (cg.mono (by decide) (by decide))
      have vg : CmV g cm := v.ch cg (by decide) (by decide)
      rcases mk with ⟨m1, m2, m3⟩ | ⟨m1, m2, m3⟩
      · subst m2
        subst m3
        refine ⟨g, fun R => ?_, cg', by rw [exRun_f m1]; exact Bg, by rw [exRun_f m1]; exact vg, e70, e18⟩
        rw [exRun_f m1, e304_62]
        have again : ∀ R, qEv (d + 6) 0 qk_304 62 [some (.ref 55), some (.int (iN 0)), some (.int (iN pre.length)), some (.int (iN ((pre.flatMap clmOf).length))), some (.int (iN 0)), x5] [] g R ↔ R = (some (.int (iN (pre.length + 0))), g) := by
          intro R
          rw [e304_62]
          simp (disch := first | assumption | omega) only [e304_0, e304_1, e304_2, e304_5, e304_6, e304_7, e304_10, e304_11, e304_12, e304_15, e304_16, e304_17, e304_20, e304_21, e304_22, e304_23, e304_26, e304_27, e304_30, e304_33, e304_34, e304_37, e304_38, e304_41, e304_42, e304_43, e304_46, e304_47, e304_50, e304_52, e304_53, e304_54, e304_55, e304_56, e304_57, e304_58, e304_59, e304_60, e304_64, e304_67, e304_68, e304_69, e304_72, e304_75, e304_76, e304_79, e304_80, e304_81, e304_82, e304_83, e304_84, e304_87, e304_88, e304_92, e304_93, e304_96, e304_97, e304_100, e304_101, e304_102, e304_105, e304_106, e304_108, e304_109, e304_110, e304_113, e304_114, e304_115, e304_116, e304_118, e304_119, e304_120, e304_121, e304_124, e304_127, e304_128, e304_129, e304_132, e304_133, e304_134, e304_137, e304_140, e304_143, e304_144, e304_145, e304_148, e304_149, e304_150, e304_151, e304_152, e304_153, e304_156, e304_157, e304_158, e304_159, e304_160, e304_161, e304_162, e304_163, e304_166, e304_167, e304_168, e304_169, e304_170, e304_171, e304_172, e304_175, e304_177, e304_178, e304_180, e304_183, e304_184, e304_187, e304_188, e304_189, e304_190, e304_193, e304_194, m304, ↓reduceIte, qg_0, qg_1, qg_2, qg_3, qg_4, qg_5, qg_6, qg_7, qg_8, qg_9, qg_10, qg_11, qg_12, qg_13, not_true_eq_false, not_false_eq_true, Nat.reduceBEq, Bool.false_eq_true, ex1, ex3, ex4, exF, qfit_i, qfit_l, qfit_r, qfit_n, qfit_b0, qfit_b1, qcat_i, qcat_r, qcat_n, qcat_l, qroom_0, qroom_c, List.map_cons, List.map_nil, List.sum_cons, List.sum_nil, Nat.reduceAdd, Nat.reduceMul, Nat.reduceLT, Nat.reduceLeDiff, Nat.reduceEqDiff, Nat.reduceSub, decide_true, true_and, and_true, and_self, if_true, if_false, Option.toList_some, Option.toList_none, List.cons_append, List.nil_append, qsL, qlong, List.length_cons, List.length_nil, iN_L, vM1, vM2, exI, iN_add, iN_mul, iN_le, iN_lt, iN_eq, Nat.le_refl, qfN0, qfN1, Nat.add_zero]
        rw [← again R]
        simp (disch := first | assumption | omega) only [e304_0, e304_1, e304_2, e304_5, e304_6, e304_7, e304_10, e304_11, e304_12, e304_15, e304_16, e304_17, e304_20, e304_21, e304_22, e304_23, e304_26, e304_27, e304_30, e304_33, e304_34, e304_37, e304_38, e304_41, e304_42, e304_43, e304_46, e304_47, e304_50, e304_52, e304_53, e304_54, e304_55, e304_56, e304_57, e304_58, e304_59, e304_60, e304_64, e304_67, e304_68, e304_69, e304_72, e304_75, e304_76, e304_79, e304_80, e304_81, e304_82, e304_83, e304_84, e304_87, e304_88, e304_92, e304_93, e304_96, e304_97, e304_100, e304_101, e304_102, e304_105, e304_106, e304_108, e304_109, e304_110, e304_113, e304_114, e304_115, e304_116, e304_118, e304_119, e304_120, e304_121, e304_124, e304_127, e304_128, e304_129, e304_132, e304_133, e304_134, e304_137, e304_140, e304_143, e304_144, e304_145, e304_148, e304_149, e304_150, e304_151, e304_152, e304_153, e304_156, e304_157, e304_158, e304_159, e304_160, e304_161, e304_162, e304_163, e304_166, e304_167, e304_168, e304_169, e304_170, e304_171, e304_172, e304_175, e304_177, e304_178, e304_180, e304_183, e304_184, e304_187, e304_188, e304_189, e304_190, e304_193, e304_194, m304, ↓reduceIte, qg_0, qg_1, qg_2, qg_3, qg_4, qg_5, qg_6, qg_7, qg_8, qg_9, qg_10, qg_11, qg_12, qg_13, not_true_eq_false, not_false_eq_true, Nat.reduceBEq, Bool.false_eq_true, ex1, ex3, ex4, exF, qfit_i, qfit_l, qfit_r, qfit_n, qfit_b0, qfit_b1, qcat_i, qcat_r, qcat_n, qcat_l, qroom_0, qroom_c, List.map_cons, List.map_nil, List.sum_cons, List.sum_nil, Nat.reduceAdd, Nat.reduceMul, Nat.reduceLT, Nat.reduceLeDiff, Nat.reduceEqDiff, Nat.reduceSub, decide_true, true_and, and_true, and_self, if_true, if_false, Option.toList_some, Option.toList_none, List.cons_append, List.nil_append, qsL, qlong, List.length_cons, List.length_nil, iN_L, vM1, vM2, exI, iN_add, iN_mul, iN_le, iN_lt, iN_eq, Nat.le_refl, qfN0, qfN1, iN10, gM_56, m56, show ¬ cs.length ≤ pre.length by omega, gM_57, rM_95, k1, k2, show ¬ k = 4 by omega, rg, Nat.add_zero]
      · subst m2
        subst m3
        obtain ⟨h', r', c', B', v', e1, e2⟩ := ih (pre ++ [.inl (k, n, m)]) (bs ++ [(tellAll n [] (shp k n m), n, 1)]) cm g x5 hp' hg' h8' cg' Bg vg
        rw [pl', fl2] at r'
        refine ⟨h', fun R => ?_, c', by rw [exRun_b (by omega)]; exact B', by rw [exRun_b (by omega)]; exact v', by rw [e1, e70], by rw [e2, e18]⟩
        rw [exRun_b (by omega), show pre.length + ((exRun l (bs ++ [(tellAll n [] (shp k n m), n, 1)]) cm).1 + 1, (exRun l (bs ++ [(tellAll n [] (shp k n m), n, 1)]) cm).2).1 = pre.length + 1 + (exRun l (bs ++ [(tellAll n [] (shp k n m), n, 1)]) cm).1 by dsimp only; omega, ← r' R, e304_62]
        simp (disch := first | assumption | omega) only [e304_0, e304_1, e304_2, e304_5, e304_6, e304_7, e304_10, e304_11, e304_12, e304_15, e304_16, e304_17, e304_20, e304_21, e304_22, e304_23, e304_26, e304_27, e304_30, e304_33, e304_34, e304_37, e304_38, e304_41, e304_42, e304_43, e304_46, e304_47, e304_50, e304_52, e304_53, e304_54, e304_55, e304_56, e304_57, e304_58, e304_59, e304_60, e304_64, e304_67, e304_68, e304_69, e304_72, e304_75, e304_76, e304_79, e304_80, e304_81, e304_82, e304_83, e304_84, e304_87, e304_88, e304_92, e304_93, e304_96, e304_97, e304_100, e304_101, e304_102, e304_105, e304_106, e304_108, e304_109, e304_110, e304_113, e304_114, e304_115, e304_116, e304_118, e304_119, e304_120, e304_121, e304_124, e304_127, e304_128, e304_129, e304_132, e304_133, e304_134, e304_137, e304_140, e304_143, e304_144, e304_145, e304_148, e304_149, e304_150, e304_151, e304_152, e304_153, e304_156, e304_157, e304_158, e304_159, e304_160, e304_161, e304_162, e304_163, e304_166, e304_167, e304_168, e304_169, e304_170, e304_171, e304_172, e304_175, e304_177, e304_178, e304_180, e304_183, e304_184, e304_187, e304_188, e304_189, e304_190, e304_193, e304_194, m304, ↓reduceIte, qg_0, qg_1, qg_2, qg_3, qg_4, qg_5, qg_6, qg_7, qg_8, qg_9, qg_10, qg_11, qg_12, qg_13, not_true_eq_false, not_false_eq_true, Nat.reduceBEq, Bool.false_eq_true, ex1, ex3, ex4, exF, qfit_i, qfit_l, qfit_r, qfit_n, qfit_b0, qfit_b1, qcat_i, qcat_r, qcat_n, qcat_l, qroom_0, qroom_c, List.map_cons, List.map_nil, List.sum_cons, List.sum_nil, Nat.reduceAdd, Nat.reduceMul, Nat.reduceLT, Nat.reduceLeDiff, Nat.reduceEqDiff, Nat.reduceSub, decide_true, true_and, and_true, and_self, if_true, if_false, Option.toList_some, Option.toList_none, List.cons_append, List.nil_append, qsL, qlong, List.length_cons, List.length_nil, iN_L, vM1, vM2, exI, iN_add, iN_mul, iN_le, iN_lt, iN_eq, Nat.le_refl, qfN0, qfN1, iN10, gM_56, m56, show ¬ cs.length ≤ pre.length by omega, gM_57, rM_95, k1, k2, show ¬ k = 4 by omega, rg]
set_option maxRecDepth 100000 in
set_option maxHeartbeats 16000000 in
theorem s_read (gg : geo) (s : ShM h) (t : TxV h tx) (B : BsM h bs) (v : CmV h cm) : ∃ r h' bs' cm', (∀ R, qMC (d + 7) 304 [.ref 55] h R ↔ R = (some (.int r), h')) ∧ Ch (exA ++ rdA) (51 :: exJ ++ rdJ) h h' ∧ TxV h' [] ∧ BsM h' bs' ∧ CmV h' cm' ∧ redR tx bs cm r bs' cm' (mi h' 52) ∧ hi h' 70 = hi h 70 ∧ mi h' 18 = mi h 18 := by
  have t160 := t.1
  have v8 := v.1.1
  obtain ⟨g, eg⟩ : ∃ g, g = mI (mI (mI (mI h 52 (-iN 1)) 53 (iN 0)) 56 (iN 0)) 58 (iN 0) := ⟨_, rfl⟩
  have s1 := s.setI (j := 52) (x := -iN 1) (by decide)
  have s2 := s1.setI (j := 53) (x := iN 0) (by decide)
  have s3 := s2.setI (j := 56) (x := iN 0) (by decide)
  have cg : Ch rdA rdJ h g := by
    rw [eg]
    exact (((Ch.setI s (by decide) (by decide)).trans (Ch.setI s1 (by decide) (by decide))).trans (Ch.setI s2 (by decide) (by decide))).trans (Ch.setI s3 (by decide) (by decide))
  have sg := cg.sh
  have w1 : qput h 55 11 52 (.int (-iN 1)) = some (mI h 52 (-iN 1)) := pM_52 s
  have w2 : qput (mI h 52 (-iN 1)) 55 11 53 (.int (iN 0)) = some (mI (mI h 52 (-iN 1)) 53 (iN 0)) := pM_53 s1
  have w3 : qput (mI (mI h 52 (-iN 1)) 53 (iN 0)) 55 11 56 (.int (iN 0)) = some (mI (mI (mI h 52 (-iN 1)) 53 (iN 0)) 56 (iN 0)) := pM_56 s2
  have w4 : qput (mI (mI (mI h 52 (-iN 1)) 53 (iN 0)) 56 (iN 0)) 55 11 58 (.int (iN 0)) = some g := by rw [eg]; exact pM_58 s3
  have m53 : mi g 53 = iN 0 := by rw [eg, mi_mI, if_neg (by decide), mi_mI, if_neg (by decide), mi_mI, if_pos rfl]
  have m52 : mi g 52 = -iN 1 := by rw [eg, mi_mI, if_neg (by decide), mi_mI, if_neg (by decide), mi_mI, if_neg (by decide), mi_mI, if_pos rfl]
  have vc : CcV g [] := ⟨by rw [eg, mi_mI, if_neg (by decide), mi_mI, if_pos rfl]; rfl, fun k hk => absurd hk (Nat.not_lt_zero k)⟩
  have vf : FcV g [] := ⟨⟨by show 0 ≤ 8; omega, fun k hk => absurd hk (Nat.not_lt_zero k)⟩, by rw [eg, mi_mI, if_pos rfl]; rfl⟩
  obtain ⟨g2, f, y1, r2, c2, -, z⟩ := rd_loop (d := d + 1) (cn := cm.length) (x2 := none) (x3 := none) (x4 := none) (x5 := none) (t.ch cg (by decide) (by decide)) (by rw [cg.mi (by decide)]; exact v.2) (tx.length + 1) 0 [] [] g (by omega) (by omega) (Ch.refl sg) m53 vc vf (by show cm.length + 0 ≤ 8; omega) (by show 6 * 0 ≤ 0; omega)
  have sg2 := c2.sh
  have c02 : Ch rdA rdJ h g2 := cg.trans c2
  obtain ⟨g3, eg3⟩ : ∃ g3, g3 = mI g2 51 (iN 0) := ⟨_, rfl⟩
  have c3 : Ch (exA ++ rdA) (51 :: exJ ++ rdJ) h g3 := (c02.mono (by decide) (by decide)).trans (by rw [eg3]; exact Ch.setI sg2 (by decide) (by decide))
  have sg3 := c3.sh
  have p3 : qput g2 55 11 51 (.int (iN 0)) = some g3 := by rw [eg3]; exact pM_51 sg2
  have mm3 : ∀ j, j ≠ 51 → mi g3 j = mi g2 j := fun j hj => by rw [eg3, mi_mI, if_neg hj]
  have hh3 : ∀ b, hi g3 b = hi g2 b := fun b => by rw [eg3, hi_mI sg2]
  have c23 : Ch [] [51] g2 g3 := by rw [eg3]; exact Ch.setI sg2 (by decide) (by decide)
  have B3 : BsM g3 bs := (B.ch c02 (by decide) (by decide)).ch c23 (by decide) (by decide)
  have v3 : CmV g3 cm := (v.ch c02 (by decide) (by decide)).ch c23 (by decide) (by decide)
  have t3 : TxV g3 [] := ⟨by show 0 ≤ 160; omega, by rw [eg3, mi_mI, if_pos rfl]; rfl, fun k hk => absurd hk (Nat.not_lt_zero k)⟩
  have start : ∀ R, qMC (d + 7) 304 [.ref 55] h R ↔ qEv (d + 6) 0 qk_304 41 [some (.ref 55), some (.int f), none, none, none, none] [] g2 R := by
    intro R
    rw [← r2 R]
    simp (disch := first | assumption | omega) only [e304_0, e304_1, e304_2, e304_5, e304_6, e304_7, e304_10, e304_11, e304_12, e304_15, e304_16, e304_17, e304_20, e304_21, e304_23, e304_26, e304_27, e304_30, e304_33, e304_34, e304_37, e304_38, e304_42, e304_43, e304_46, e304_47, e304_50, e304_52, e304_53, e304_54, e304_55, e304_56, e304_57, e304_58, e304_59, e304_60, e304_62, e304_64, e304_67, e304_68, e304_69, e304_72, e304_75, e304_76, e304_79, e304_80, e304_81, e304_82, e304_83, e304_84, e304_87, e304_88, e304_90, e304_92, e304_93, e304_96, e304_97, e304_100, e304_101, e304_102, e304_105, e304_106, e304_108, e304_109, e304_110, e304_113, e304_114, e304_115, e304_116, e304_118, e304_119, e304_120, e304_121, e304_124, e304_127, e304_128, e304_129, e304_132, e304_133, e304_134, e304_137, e304_140, e304_143, e304_144, e304_145, e304_148, e304_149, e304_150, e304_151, e304_152, e304_153, e304_156, e304_157, e304_158, e304_159, e304_160, e304_161, e304_162, e304_163, e304_166, e304_167, e304_168, e304_169, e304_170, e304_171, e304_172, e304_175, e304_177, e304_178, e304_180, e304_183, e304_184, e304_187, e304_188, e304_189, e304_190, e304_193, e304_194, m304, ↓reduceIte, qg_0, qg_1, qg_2, qg_3, qg_4, qg_5, qg_6, qg_7, qg_8, qg_9, qg_10, qg_11, qg_12, qg_13, not_true_eq_false, not_false_eq_true, Nat.reduceBEq, Bool.false_eq_true, ex1, ex3, ex4, exF, qfit_i, qfit_l, qfit_r, qfit_n, qfit_b0, qfit_b1, qcat_i, qcat_r, qcat_n, qcat_l, qroom_0, qroom_c, List.map_cons, List.map_nil, List.sum_cons, List.sum_nil, Nat.reduceAdd, Nat.reduceMul, Nat.reduceLT, Nat.reduceLeDiff, Nat.reduceEqDiff, Nat.reduceSub, decide_true, true_and, and_true, and_self, if_true, if_false, Option.toList_some, Option.toList_none, List.cons_append, List.nil_append, qsL, qlong, List.length_cons, List.length_nil, iN_L, vM1, vM2, exI, iN_add, iN_mul, iN_le, iN_lt, iN_eq, Nat.le_refl, qfN0, qfN1, w1, w2, w3, w4]
  have e70 : hi g3 70 = hi h 70 := by rw [hh3, c02.hi (by decide) (by decide)]
  have e18 : mi g3 18 = mi h 18 := by rw [mm3 18 (by decide), c02.mi (by decide)]
  rw [Nat.add_zero] at z
  unfold redR
  cases e : pAll tx (tx.length + 1) 0 cm.length with
  | inl q =>
    obtain ⟨z1, z2, z3⟩ := rdQ_l z e
    subst z1
    refine ⟨-iN 10 - iN q.1, g3, bs, cm, fun R => ?_, c3, t3, B3, v3, ⟨rfl, rfl, rfl, by rw [mm3 52 (by decide)]; exact z3⟩, e70, e18⟩
    rw [start R, e304_41]
    simp (disch := first | assumption | omega) only [e304_0, e304_1, e304_2, e304_5, e304_6, e304_7, e304_10, e304_11, e304_12, e304_15, e304_16, e304_17, e304_20, e304_21, e304_22, e304_23, e304_26, e304_27, e304_30, e304_33, e304_34, e304_37, e304_38, e304_42, e304_43, e304_46, e304_47, e304_50, e304_52, e304_53, e304_54, e304_55, e304_56, e304_57, e304_58, e304_59, e304_60, e304_64, e304_67, e304_68, e304_69, e304_72, e304_75, e304_76, e304_79, e304_80, e304_81, e304_82, e304_83, e304_84, e304_87, e304_88, e304_90, e304_92, e304_93, e304_96, e304_97, e304_100, e304_101, e304_102, e304_105, e304_106, e304_108, e304_109, e304_110, e304_113, e304_114, e304_115, e304_116, e304_118, e304_119, e304_120, e304_121, e304_124, e304_127, e304_128, e304_129, e304_132, e304_133, e304_134, e304_137, e304_140, e304_143, e304_144, e304_145, e304_148, e304_149, e304_150, e304_151, e304_152, e304_153, e304_156, e304_157, e304_158, e304_159, e304_160, e304_161, e304_162, e304_163, e304_166, e304_167, e304_168, e304_169, e304_170, e304_171, e304_172, e304_175, e304_177, e304_178, e304_180, e304_183, e304_184, e304_187, e304_188, e304_189, e304_190, e304_193, e304_194, m304, ↓reduceIte, qg_0, qg_1, qg_2, qg_3, qg_4, qg_5, qg_6, qg_7, qg_8, qg_9, qg_10, qg_11, qg_12, qg_13, not_true_eq_false, not_false_eq_true, Nat.reduceBEq, Bool.false_eq_true, ex1, ex3, ex4, exF, qfit_i, qfit_l, qfit_r, qfit_n, qfit_b0, qfit_b1, qcat_i, qcat_r, qcat_n, qcat_l, qroom_0, qroom_c, List.map_cons, List.map_nil, List.sum_cons, List.sum_nil, Nat.reduceAdd, Nat.reduceMul, Nat.reduceLT, Nat.reduceLeDiff, Nat.reduceEqDiff, Nat.reduceSub, decide_true, true_and, and_true, and_self, if_true, if_false, Option.toList_some, Option.toList_none, List.cons_append, List.nil_append, qsL, qlong, List.length_cons, List.length_nil, iN_L, vM1, vM2, exI, iN_add, iN_mul, iN_le, iN_lt, iN_eq, Nat.le_refl, qfN0, qfN1, p3, show ¬ q.1 ≤ 0 by omega]
  | inr l =>
    obtain ⟨z1, z2, z3, z4⟩ := rdQ_r z e
    subst z1
    obtain ⟨a1, a2, a3⟩ := pAll_ok (tx.length + 1) 0 cm.length l (by omega) v8 e
    rw [List.nil_append] at z3 z4
    have vc3 : CcV g3 l := ⟨by rw [mm3 56 (by decide)]; exact z3.1, fun k hk => (z3.2 k hk).keep fun j _ => by rw [hh3]⟩
    have vf3 : FcV g3 (l.flatMap clmOf) := z4.keep (hh3 96) (mm3 58 (by decide))
    obtain ⟨h', r', c', B', v', e1, e2⟩ := rd_do (d := d) gg vc3 vf3 (by omega) l [] bs cm g3 none rfl a1 a2 (Ch.refl sg3) B3 v3
    rw [show ([] : List cls4).length = 0 from rfl, Nat.zero_add] at r'
    have t' : TxV h' [] := t3.ch c' (by decide) (by decide)
    refine ⟨_, h', _, _, fun R => ?_, c3.trans (c'.mono (by decide) (by decide)), t', B', v', ⟨rfl, rfl, rfl, by rw [c'.mi (by decide), mm3 52 (by decide), z2]; exact m52⟩, by rw [e1]; exact e70, by rw [e2]; exact e18⟩
    rw [start R, ← r' R, e304_41]
    simp (disch := first | assumption | omega) only [e304_0, e304_1, e304_2, e304_5, e304_6, e304_7, e304_10, e304_11, e304_12, e304_15, e304_16, e304_17, e304_20, e304_21, e304_22, e304_23, e304_26, e304_27, e304_30, e304_33, e304_34, e304_37, e304_38, e304_42, e304_43, e304_46, e304_47, e304_50, e304_52, e304_53, e304_54, e304_55, e304_56, e304_57, e304_58, e304_59, e304_60, e304_64, e304_67, e304_68, e304_69, e304_72, e304_75, e304_76, e304_79, e304_80, e304_81, e304_82, e304_83, e304_84, e304_87, e304_88, e304_90, e304_92, e304_93, e304_96, e304_97, e304_100, e304_101, e304_102, e304_105, e304_106, e304_108, e304_109, e304_110, e304_113, e304_114, e304_115, e304_116, e304_118, e304_119, e304_120, e304_121, e304_124, e304_127, e304_128, e304_129, e304_132, e304_133, e304_134, e304_137, e304_140, e304_143, e304_144, e304_145, e304_148, e304_149, e304_150, e304_151, e304_152, e304_153, e304_156, e304_157, e304_158, e304_159, e304_160, e304_161, e304_162, e304_163, e304_166, e304_167, e304_168, e304_169, e304_170, e304_171, e304_172, e304_175, e304_177, e304_178, e304_180, e304_183, e304_184, e304_187, e304_188, e304_189, e304_190, e304_193, e304_194, m304, ↓reduceIte, qg_0, qg_1, qg_2, qg_3, qg_4, qg_5, qg_6, qg_7, qg_8, qg_9, qg_10, qg_11, qg_12, qg_13, not_true_eq_false, not_false_eq_true, Nat.reduceBEq, Bool.false_eq_true, ex1, ex3, ex4, exF, qfit_i, qfit_l, qfit_r, qfit_n, qfit_b0, qfit_b1, qcat_i, qcat_r, qcat_n, qcat_l, qroom_0, qroom_c, List.map_cons, List.map_nil, List.sum_cons, List.sum_nil, Nat.reduceAdd, Nat.reduceMul, Nat.reduceLT, Nat.reduceLeDiff, Nat.reduceEqDiff, Nat.reduceSub, decide_true, true_and, and_true, and_self, if_true, if_false, Option.toList_some, Option.toList_none, List.cons_append, List.nil_append, qsL, qlong, List.length_cons, List.length_nil, iN_L, vM1, vM2, exI, iN_add, iN_mul, iN_le, iN_lt, iN_eq, Nat.le_refl, qfN0, qfN1, p3, show (([] : List cls4).flatMap clmOf).length = 0 from rfl]
set_option maxRecDepth 100000 in
theorem s_fault {R : qRes} (s : ShM h) : qMC (d + 1) 305 [.ref 55] h R ↔ R = (some (.int (mi h 52)), h) := by
  simp (disch := first | assumption | omega) only [e305_0, e305_1, e305_4, m305, ↓reduceIte, qg_0, qg_1, qg_2, qg_3, qg_4, qg_5, qg_6, qg_7, qg_8, qg_9, qg_10, qg_11, qg_12, qg_13, not_true_eq_false, not_false_eq_true, Nat.reduceBEq, Bool.false_eq_true, ex1, ex3, ex4, exF, qfit_i, qfit_l, qfit_r, qfit_n, qfit_b0, qfit_b1, qcat_i, qcat_r, qcat_n, qcat_l, qroom_0, qroom_c, List.map_cons, List.map_nil, List.sum_cons, List.sum_nil, Nat.reduceAdd, Nat.reduceMul, Nat.reduceLT, Nat.reduceLeDiff, Nat.reduceEqDiff, Nat.reduceSub, decide_true, true_and, and_true, and_self, if_true, if_false, Option.toList_some, Option.toList_none, List.cons_append, List.nil_append, qsL, qlong, List.length_cons, List.length_nil, iN_L, vM1, vM2, exI, iN_add, iN_mul, iN_le, iN_lt, iN_eq, Nat.le_refl, qfN0, qfN1, gM_52]
/-- what a claim says of a count -/
def hldB (c : clm) (f : Nat) : Bool := if c.2.2.1 = 60 then decide (f < c.2.2.2) else if c.2.2.1 = 62 then decide (c.2.2.2 < f) else decide (f = c.2.2.2)
/-- claims that can stand -/
def cmG (cm : List clm) : Prop := ∀ c ∈ cm, clG (.inr c)
theorem cmG_at {k : Nat} (g : cmG cm) (hk : k < cm.length) : clG (.inr (cm.getD k c0m)) := g _ (by rw [List.getD_eq_getElem?_getD, List.getElem?_eq_getElem hk]; exact List.getElem_mem hk)
set_option maxRecDepth 100000 in
set_option maxHeartbeats 16000000 in
theorem s_isHeld {k i : Nat} {R : qRes} (s : ShM h) (B : BsM h bs) (v : CmV h cm) (g : cmG cm) (hk : k < cm.length) (hi' : i < bs.length) : qMC (d + 2) 306 [.ref 55, .int (iN k), .int (iN i)] h R ↔ R = (some (.int (bB (hldB (cm.getD k c0m) (cel bs i (cm.getD k c0m).2.1).length))), h) := by
  have k8 := v.1.1
  have b24 := B.1
  obtain ⟨g1, g2, g3, g4⟩ := cmG_at g hk
  have v1 := v.1.2 k hk 1 (by omega)
  have v2 := v.1.2 k hk 2 (by omega)
  have v3 := v.1.2 k hk 3 (by omega)
  obtain ⟨c, ec⟩ : ∃ c, c = cm.getD k c0m := ⟨_, rfl⟩
  rw [← ec] at v1 v2 v3 g2 g3 g4 ⊢
  have v1' : hi h 94 (4 * k + 1) = iN c.2.1 := v1
  have v2' : hi h 94 (4 * k + 2) = iN c.2.2.1 := v2
  have v3' : hi h 94 (4 * k + 3) = iN c.2.2.2 := v3
  have c208 := (B.cells hi' c.2.1 (by omega)).2.1
  have sm : ∀ R, qMC (d + 1) 195 [.ref 55, .int (iN i), .int (iN c.2.1)] h R ↔ R = (some (.int (iN (cel bs i c.2.1).length)), h) := fun R => s_manyC s B hi' (by omega)
  have sg : c.2.2.1 = 60 ∨ c.2.2.1 = 62 ∨ c.2.2.1 = 61 := by
    unfold isSg at g3
    rw [Bool.or_eq_true, Bool.or_eq_true, beq_iff_eq, beq_iff_eq, beq_iff_eq] at g3
    rcases g3 with (w | w) | w
    · exact Or.inl w
    · exact Or.inr (Or.inl w)
    · exact Or.inr (Or.inr w)
  generalize (cel bs i c.2.1).length = f at *
  unfold hldB
  rcases sg with w | w | w
  · rw [w] at v2' ⊢
    rw [if_pos rfl]
    by_cases q : f < c.2.2.2
    · rw [decide_eq_true q, bN_t]
      simp (disch := first | assumption | omega) only [e306_0, e306_1, e306_2, e306_3, e306_6, e306_7, e306_8, e306_9, e306_10, e306_11, e306_12, e306_15, e306_16, e306_17, e306_20, e306_21, e306_22, e306_23, e306_24, e306_25, e306_26, e306_28, e306_29, e306_32, e306_33, e306_34, e306_35, e306_36, e306_37, e306_38, e306_40, e306_42, e306_44, e306_47, e306_48, e306_50, e306_53, e306_54, e306_57, e306_58, e306_61, e306_63, e306_65, e306_68, e306_69, e306_71, e306_74, e306_75, e306_78, e306_79, e306_82, e306_83, e306_85, e306_88, e306_89, e306_92, e306_93, m306, ↓reduceIte, qg_0, qg_1, qg_2, qg_3, qg_4, qg_5, qg_6, qg_7, qg_8, qg_9, qg_10, qg_11, qg_12, qg_13, not_true_eq_false, not_false_eq_true, Nat.reduceBEq, Bool.false_eq_true, ex1, ex3, ex4, exF, qfit_i, qfit_l, qfit_r, qfit_n, qfit_b0, qfit_b1, qcat_i, qcat_r, qcat_n, qcat_l, qroom_0, qroom_c, List.map_cons, List.map_nil, List.sum_cons, List.sum_nil, Nat.reduceAdd, Nat.reduceMul, Nat.reduceLT, Nat.reduceLeDiff, Nat.reduceEqDiff, Nat.reduceSub, decide_true, true_and, and_true, and_self, if_true, if_false, Option.toList_some, Option.toList_none, List.cons_append, List.nil_append, qsL, qlong, List.length_cons, List.length_nil, iN_L, vM1, vM2, exI, iN_add, iN_mul, iN_le, iN_lt, iN_eq, Nat.le_refl, qfN0, qfN1, gM_55, rM_94, v1', sm, v2', v3', show ¬ c.2.2.2 ≤ f by omega]
    · rw [decide_eq_false q, bN_f]
      simp (disch := first | assumption | omega) only [e306_0, e306_1, e306_2, e306_3, e306_6, e306_7, e306_8, e306_9, e306_10, e306_11, e306_12, e306_15, e306_16, e306_17, e306_20, e306_21, e306_22, e306_23, e306_24, e306_25, e306_26, e306_28, e306_29, e306_32, e306_33, e306_34, e306_35, e306_36, e306_37, e306_38, e306_40, e306_42, e306_44, e306_47, e306_48, e306_50, e306_53, e306_54, e306_57, e306_58, e306_61, e306_63, e306_65, e306_68, e306_69, e306_71, e306_74, e306_75, e306_78, e306_79, e306_82, e306_83, e306_85, e306_88, e306_89, e306_92, e306_93, m306, ↓reduceIte, qg_0, qg_1, qg_2, qg_3, qg_4, qg_5, qg_6, qg_7, qg_8, qg_9, qg_10, qg_11, qg_12, qg_13, not_true_eq_false, not_false_eq_true, Nat.reduceBEq, Bool.false_eq_true, ex1, ex3, ex4, exF, qfit_i, qfit_l, qfit_r, qfit_n, qfit_b0, qfit_b1, qcat_i, qcat_r, qcat_n, qcat_l, qroom_0, qroom_c, List.map_cons, List.map_nil, List.sum_cons, List.sum_nil, Nat.reduceAdd, Nat.reduceMul, Nat.reduceLT, Nat.reduceLeDiff, Nat.reduceEqDiff, Nat.reduceSub, decide_true, true_and, and_true, and_self, if_true, if_false, Option.toList_some, Option.toList_none, List.cons_append, List.nil_append, qsL, qlong, List.length_cons, List.length_nil, iN_L, vM1, vM2, exI, iN_add, iN_mul, iN_le, iN_lt, iN_eq, Nat.le_refl, qfN0, qfN1, gM_55, rM_94, v1', sm, v2', v3', show c.2.2.2 ≤ f by omega]
  · rw [w] at v2' ⊢
    rw [if_neg (by decide), if_pos rfl]
    by_cases q : c.2.2.2 < f
    · rw [decide_eq_true q, bN_t]
      simp (disch := first | assumption | omega) only [e306_0, e306_1, e306_2, e306_3, e306_6, e306_7, e306_8, e306_9, e306_10, e306_11, e306_12, e306_15, e306_16, e306_17, e306_20, e306_21, e306_22, e306_23, e306_24, e306_25, e306_26, e306_28, e306_29, e306_32, e306_33, e306_34, e306_35, e306_36, e306_37, e306_38, e306_40, e306_42, e306_44, e306_47, e306_48, e306_50, e306_53, e306_54, e306_57, e306_58, e306_61, e306_63, e306_65, e306_68, e306_69, e306_71, e306_74, e306_75, e306_78, e306_79, e306_82, e306_83, e306_85, e306_88, e306_89, e306_92, e306_93, m306, ↓reduceIte, qg_0, qg_1, qg_2, qg_3, qg_4, qg_5, qg_6, qg_7, qg_8, qg_9, qg_10, qg_11, qg_12, qg_13, not_true_eq_false, not_false_eq_true, Nat.reduceBEq, Bool.false_eq_true, ex1, ex3, ex4, exF, qfit_i, qfit_l, qfit_r, qfit_n, qfit_b0, qfit_b1, qcat_i, qcat_r, qcat_n, qcat_l, qroom_0, qroom_c, List.map_cons, List.map_nil, List.sum_cons, List.sum_nil, Nat.reduceAdd, Nat.reduceMul, Nat.reduceLT, Nat.reduceLeDiff, Nat.reduceEqDiff, Nat.reduceSub, decide_true, true_and, and_true, and_self, if_true, if_false, Option.toList_some, Option.toList_none, List.cons_append, List.nil_append, qsL, qlong, List.length_cons, List.length_nil, iN_L, vM1, vM2, exI, iN_add, iN_mul, iN_le, iN_lt, iN_eq, Nat.le_refl, qfN0, qfN1, gM_55, rM_94, v1', sm, v2', v3', show ¬ f ≤ c.2.2.2 by omega]
    · rw [decide_eq_false q, bN_f]
      simp (disch := first | assumption | omega) only [e306_0, e306_1, e306_2, e306_3, e306_6, e306_7, e306_8, e306_9, e306_10, e306_11, e306_12, e306_15, e306_16, e306_17, e306_20, e306_21, e306_22, e306_23, e306_24, e306_25, e306_26, e306_28, e306_29, e306_32, e306_33, e306_34, e306_35, e306_36, e306_37, e306_38, e306_40, e306_42, e306_44, e306_47, e306_48, e306_50, e306_53, e306_54, e306_57, e306_58, e306_61, e306_63, e306_65, e306_68, e306_69, e306_71, e306_74, e306_75, e306_78, e306_79, e306_82, e306_83, e306_85, e306_88, e306_89, e306_92, e306_93, m306, ↓reduceIte, qg_0, qg_1, qg_2, qg_3, qg_4, qg_5, qg_6, qg_7, qg_8, qg_9, qg_10, qg_11, qg_12, qg_13, not_true_eq_false, not_false_eq_true, Nat.reduceBEq, Bool.false_eq_true, ex1, ex3, ex4, exF, qfit_i, qfit_l, qfit_r, qfit_n, qfit_b0, qfit_b1, qcat_i, qcat_r, qcat_n, qcat_l, qroom_0, qroom_c, List.map_cons, List.map_nil, List.sum_cons, List.sum_nil, Nat.reduceAdd, Nat.reduceMul, Nat.reduceLT, Nat.reduceLeDiff, Nat.reduceEqDiff, Nat.reduceSub, decide_true, true_and, and_true, and_self, if_true, if_false, Option.toList_some, Option.toList_none, List.cons_append, List.nil_append, qsL, qlong, List.length_cons, List.length_nil, iN_L, vM1, vM2, exI, iN_add, iN_mul, iN_le, iN_lt, iN_eq, Nat.le_refl, qfN0, qfN1, gM_55, rM_94, v1', sm, v2', v3', show f ≤ c.2.2.2 by omega]
  · rw [w] at v2' ⊢
    rw [if_neg (by decide), if_neg (by decide)]
    by_cases q : f = c.2.2.2
    · rw [decide_eq_true q, bN_t]
      simp (disch := first | assumption | omega) only [e306_0, e306_1, e306_2, e306_3, e306_6, e306_7, e306_8, e306_9, e306_10, e306_11, e306_12, e306_15, e306_16, e306_17, e306_20, e306_21, e306_22, e306_23, e306_24, e306_25, e306_26, e306_28, e306_29, e306_32, e306_33, e306_34, e306_35, e306_36, e306_37, e306_38, e306_40, e306_42, e306_44, e306_47, e306_48, e306_50, e306_53, e306_54, e306_57, e306_58, e306_61, e306_63, e306_65, e306_68, e306_69, e306_71, e306_74, e306_75, e306_78, e306_79, e306_82, e306_83, e306_85, e306_88, e306_89, e306_92, e306_93, m306, ↓reduceIte, qg_0, qg_1, qg_2, qg_3, qg_4, qg_5, qg_6, qg_7, qg_8, qg_9, qg_10, qg_11, qg_12, qg_13, not_true_eq_false, not_false_eq_true, Nat.reduceBEq, Bool.false_eq_true, ex1, ex3, ex4, exF, qfit_i, qfit_l, qfit_r, qfit_n, qfit_b0, qfit_b1, qcat_i, qcat_r, qcat_n, qcat_l, qroom_0, qroom_c, List.map_cons, List.map_nil, List.sum_cons, List.sum_nil, Nat.reduceAdd, Nat.reduceMul, Nat.reduceLT, Nat.reduceLeDiff, Nat.reduceEqDiff, Nat.reduceSub, decide_true, true_and, and_true, and_self, if_true, if_false, Option.toList_some, Option.toList_none, List.cons_append, List.nil_append, qsL, qlong, List.length_cons, List.length_nil, iN_L, vM1, vM2, exI, iN_add, iN_mul, iN_le, iN_lt, iN_eq, Nat.le_refl, qfN0, qfN1, gM_55, rM_94, v1', sm, v2', v3', q]
    · rw [decide_eq_false q, bN_f]
      simp (disch := first | assumption | omega) only [e306_0, e306_1, e306_2, e306_3, e306_6, e306_7, e306_8, e306_9, e306_10, e306_11, e306_12, e306_15, e306_16, e306_17, e306_20, e306_21, e306_22, e306_23, e306_24, e306_25, e306_26, e306_28, e306_29, e306_32, e306_33, e306_34, e306_35, e306_36, e306_37, e306_38, e306_40, e306_42, e306_44, e306_47, e306_48, e306_50, e306_53, e306_54, e306_57, e306_58, e306_61, e306_63, e306_65, e306_68, e306_69, e306_71, e306_74, e306_75, e306_78, e306_79, e306_82, e306_83, e306_85, e306_88, e306_89, e306_92, e306_93, m306, ↓reduceIte, qg_0, qg_1, qg_2, qg_3, qg_4, qg_5, qg_6, qg_7, qg_8, qg_9, qg_10, qg_11, qg_12, qg_13, not_true_eq_false, not_false_eq_true, Nat.reduceBEq, Bool.false_eq_true, ex1, ex3, ex4, exF, qfit_i, qfit_l, qfit_r, qfit_n, qfit_b0, qfit_b1, qcat_i, qcat_r, qcat_n, qcat_l, qroom_0, qroom_c, List.map_cons, List.map_nil, List.sum_cons, List.sum_nil, Nat.reduceAdd, Nat.reduceMul, Nat.reduceLT, Nat.reduceLeDiff, Nat.reduceEqDiff, Nat.reduceSub, decide_true, true_and, and_true, and_self, if_true, if_false, Option.toList_some, Option.toList_none, List.cons_append, List.nil_append, qsL, qlong, List.length_cons, List.length_nil, iN_L, vM1, vM2, exI, iN_add, iN_mul, iN_le, iN_lt, iN_eq, Nat.le_refl, qfN0, qfN1, gM_55, rM_94, v1', sm, v2', v3', q]
/-- of which bodies a claim speaks; is it broken there -/
noncomputable def brkB (bs : List bdy) (c : clm) (i : Nat) : Bool := (match c.1 with
  | none => true
  | some b => decide (i = b)) && !hldB c (cel bs i c.2.1).length
/-- the answer of `claim` -/
noncomputable def claR (bs : List bdy) (cm : List clm) (x v : Int32) : Prop := ((¬ ∃ k, k < cm.length ∧ x = iN k) ∧ v = -1001) ∨ ∃ k, (k < cm.length ∧ x = iN k) ∧ (((∃ b, (cm.getD k c0m).1 = some b ∧ bs.length ≤ b) ∧ v = -iN 1) ∨ ((∀ b, (cm.getD k c0m).1 = some b → b < bs.length) ∧ (((∀ i, i < bs.length → brkB bs (cm.getD k c0m) i = false) ∧ v = iN 0) ∨ ∃ i, i < bs.length ∧ brkB bs (cm.getD k c0m) i = true ∧ (∀ j, j < i → brkB bs (cm.getD k c0m) j = false) ∧ v = iN (100 + i))))
set_option maxRecDepth 100000 in
set_option maxHeartbeats 16000000 in
theorem s_claim {x : Int32} (s : ShM h) (B : BsM h bs) (v : CmV h cm) (g : cmG cm) : ∃ r, (∀ R, qMC (d + 3) 307 [.ref 55, .int x] h R ↔ R = (some (.int r), h)) ∧ claR bs cm x r := by
  have k8 := v.1.1
  have b24 := B.1
  have m0 := B.2.1
  have m54 := v.2
  have rn : ((0 : Int64) ≤ x.toInt64 ∧ x.toInt64 ≤ (iN cm.length - iN 1).toInt64) ↔ ∃ k, k < cm.length ∧ x = iN k := in_cnt (x := x) (n := cm.length) (by omega)
  by_cases hx : ∃ k, k < cm.length ∧ x = iN k
  · have hb : bI ((0 : Int64) ≤ x.toInt64 ∧ x.toInt64 ≤ (iN cm.length - iN 1).toInt64) = iN 1 := if_pos (rn.mpr hx)
    obtain ⟨k, hk, rfl⟩ := hx
    have v0 := v.1.2 k hk 0 (by omega)
    have gk := cmG_at g hk
    obtain ⟨c, ec⟩ : ∃ c, c = cm.getD k c0m := ⟨_, rfl⟩
    rw [← ec] at v0 gk
    have v0' : hi h 94 (4 * k) = bV c.1 := v0
    by_cases hb1 : ∃ b, c.1 = some b ∧ bs.length ≤ b
    · refine ⟨-iN 1, fun R => ?_, Or.inr ⟨k, ⟨hk, rfl⟩, Or.inl ⟨by rw [← ec]; exact hb1, rfl⟩⟩⟩
      obtain ⟨b, e1, e2⟩ := hb1
      have b99 := gk.1 b e1
      rw [e1, show bV (some b) = iN b from rfl] at v0'
      simp (disch := first | assumption | omega) only [e307_0, e307_1, e307_2, e307_3, e307_4, e307_7, e307_8, e307_9, e307_10, e307_13, e307_16, e307_19, e307_20, e307_21, e307_24, e307_25, e307_26, e307_27, e307_28, e307_29, e307_30, e307_31, e307_34, e307_37, e307_38, e307_39, e307_40, e307_42, e307_43, e307_46, e307_49, e307_50, e307_53, e307_54, e307_55, e307_58, e307_59, e307_60, e307_61, e307_64, e307_67, e307_69, e307_70, e307_71, e307_72, e307_75, e307_78, e307_79, m307, ↓reduceIte, qg_0, qg_1, qg_2, qg_3, qg_4, qg_5, qg_6, qg_7, qg_8, qg_9, qg_10, qg_11, qg_12, qg_13, not_true_eq_false, not_false_eq_true, Nat.reduceBEq, Bool.false_eq_true, ex1, ex3, ex4, exF, qfit_i, qfit_l, qfit_r, qfit_n, qfit_b0, qfit_b1, qcat_i, qcat_r, qcat_n, qcat_l, qroom_0, qroom_c, List.map_cons, List.map_nil, List.sum_cons, List.sum_nil, Nat.reduceAdd, Nat.reduceMul, Nat.reduceLT, Nat.reduceLeDiff, Nat.reduceEqDiff, Nat.reduceSub, decide_true, true_and, and_true, and_self, if_true, if_false, Option.toList_some, Option.toList_none, List.cons_append, List.nil_append, qsL, qlong, List.length_cons, List.length_nil, iN_L, vM1, vM2, exI, iN_add, iN_mul, iN_le, iN_lt, iN_eq, Nat.le_refl, qfN0, qfN1, s_in, gM_54, m54, hb, iN10, gM_55, rM_94, v0', gM_0, m0, show ¬ b < bs.length by omega]
    · have hb2 : ∀ b, c.1 = some b → b < bs.length := fun b e => by
        rcases Nat.lt_or_ge b bs.length with z | z
        · exact z
        · exact absurd ⟨b, e, z⟩ hb1
      have lt : bV c.1 < iN bs.length := by
        cases e : c.1 with
        | none => show -iN 1 < iN bs.length; rw [Int32.lt_iff_toInt_lt, iN_int (by omega)]; show (-1 : Int) < _; omega
        | some b => show iN b < iN bs.length; rw [iN_lt (by have := hb2 b e; omega) (by omega)]; exact hb2 b e
      have start : ∀ R, qMC (d + 3) 307 [.ref 55, .int (iN k)] h R ↔ qEv (d + 2) 0 qk_307 41 [some (.ref 55), some (.int (iN k)), some (.int (bV c.1)), some (.int (iN 0))] [] h R := by
        intro R
        simp (disch := first | assumption | omega) only [e307_0, e307_1, e307_2, e307_3, e307_4, e307_7, e307_8, e307_9, e307_10, e307_13, e307_16, e307_19, e307_20, e307_21, e307_24, e307_25, e307_26, e307_27, e307_28, e307_29, e307_30, e307_31, e307_34, e307_37, e307_38, e307_39, e307_40, e307_42, e307_43, e307_46, e307_49, e307_50, e307_53, e307_54, e307_55, e307_58, e307_59, e307_60, e307_61, e307_64, e307_67, e307_69, e307_70, e307_71, e307_72, e307_75, e307_78, e307_79, m307, ↓reduceIte, qg_0, qg_1, qg_2, qg_3, qg_4, qg_5, qg_6, qg_7, qg_8, qg_9, qg_10, qg_11, qg_12, qg_13, not_true_eq_false, not_false_eq_true, Nat.reduceBEq, Bool.false_eq_true, ex1, ex3, ex4, exF, qfit_i, qfit_l, qfit_r, qfit_n, qfit_b0, qfit_b1, qcat_i, qcat_r, qcat_n, qcat_l, qroom_0, qroom_c, List.map_cons, List.map_nil, List.sum_cons, List.sum_nil, Nat.reduceAdd, Nat.reduceMul, Nat.reduceLT, Nat.reduceLeDiff, Nat.reduceEqDiff, Nat.reduceSub, decide_true, true_and, and_true, and_self, if_true, if_false, Option.toList_some, Option.toList_none, List.cons_append, List.nil_append, qsL, qlong, List.length_cons, List.length_nil, iN_L, vM1, vM2, exI, iN_add, iN_mul, iN_le, iN_lt, iN_eq, Nat.le_refl, qfN0, qfN1, s_in, gM_54, m54, hb, iN10, gM_55, rM_94, v0', gM_0, m0, lt]
      have ih : ∀ (w i : Nat), i + w = bs.length → (∀ j, j < i → brkB bs c j = false) → ∃ r, (∀ R, qEv (d + 2) 0 qk_307 41 [some (.ref 55), some (.int (iN k)), some (.int (bV c.1)), some (.int (iN i))] [] h R ↔ R = (some (.int r), h)) ∧ (((∀ i, i < bs.length → brkB bs c i = false) ∧ r = iN 0) ∨ ∃ i, i < bs.length ∧ brkB bs c i = true ∧ (∀ j, j < i → brkB bs c j = false) ∧ r = iN (100 + i)) := by
        intro w
        induction w with
        | zero =>
          intro i hi' hj
          refine ⟨iN 0, fun R => ?_, Or.inl ⟨fun j h1 => hj j (by omega), rfl⟩⟩
          rw [e307_41]
          simp (disch := first | assumption | omega) only [e307_0, e307_1, e307_2, e307_3, e307_4, e307_7, e307_8, e307_9, e307_10, e307_13, e307_16, e307_19, e307_20, e307_21, e307_24, e307_25, e307_26, e307_27, e307_28, e307_29, e307_30, e307_31, e307_34, e307_37, e307_38, e307_39, e307_40, e307_42, e307_43, e307_46, e307_49, e307_50, e307_53, e307_54, e307_55, e307_58, e307_59, e307_60, e307_61, e307_64, e307_67, e307_69, e307_70, e307_71, e307_72, e307_75, e307_78, e307_79, m307, ↓reduceIte, qg_0, qg_1, qg_2, qg_3, qg_4, qg_5, qg_6, qg_7, qg_8, qg_9, qg_10, qg_11, qg_12, qg_13, not_true_eq_false, not_false_eq_true, Nat.reduceBEq, Bool.false_eq_true, ex1, ex3, ex4, exF, qfit_i, qfit_l, qfit_r, qfit_n, qfit_b0, qfit_b1, qcat_i, qcat_r, qcat_n, qcat_l, qroom_0, qroom_c, List.map_cons, List.map_nil, List.sum_cons, List.sum_nil, Nat.reduceAdd, Nat.reduceMul, Nat.reduceLT, Nat.reduceLeDiff, Nat.reduceEqDiff, Nat.reduceSub, decide_true, true_and, and_true, and_self, if_true, if_false, Option.toList_some, Option.toList_none, List.cons_append, List.nil_append, qsL, qlong, List.length_cons, List.length_nil, iN_L, vM1, vM2, exI, iN_add, iN_mul, iN_le, iN_lt, iN_eq, Nat.le_refl, qfN0, qfN1, gM_0, m0, show bs.length ≤ i by omega]
        | succ w ih =>
          intro i hi' hj
          have ib : i < bs.length := by omega
          have sh : ∀ R, qMC (d + 2) 306 [.ref 55, .int (iN k), .int (iN i)] h R ↔ R = (some (.int (bB (hldB c (cel bs i c.2.1).length))), h) := fun R => by rw [ec]; exact s_isHeld s B v g hk ib
          have skip : brkB bs c i = false → ∃ r, (∀ R, qEv (d + 2) 0 qk_307 72 [some (.ref 55), some (.int (iN k)), some (.int (bV c.1)), some (.int (iN i))] [] h R ↔ R = (some (.int r), h)) ∧ (((∀ i, i < bs.length → brkB bs c i = false) ∧ r = iN 0) ∨ ∃ i, i < bs.length ∧ brkB bs c i = true ∧ (∀ j, j < i → brkB bs c j = false) ∧ r = iN (100 + i)) := fun hf => by
            obtain ⟨r, r1, r2⟩ := ih (i + 1) (by omega) (fun j h1 => by
              rcases Nat.lt_or_ge j i with z | z
              · exact hj j z
              · rw [show j = i by omega]; exact hf)
            refine ⟨r, fun R => ?_, r2⟩
            rw [← r1 R, e307_72]
            simp (disch := first | assumption | omega) only [e307_0, e307_1, e307_2, e307_3, e307_4, e307_7, e307_8, e307_9, e307_10, e307_13, e307_16, e307_19, e307_20, e307_21, e307_24, e307_25, e307_26, e307_27, e307_28, e307_29, e307_30, e307_31, e307_34, e307_37, e307_38, e307_39, e307_40, e307_42, e307_43, e307_46, e307_49, e307_50, e307_53, e307_54, e307_55, e307_58, e307_59, e307_60, e307_61, e307_64, e307_67, e307_69, e307_70, e307_71, e307_75, e307_78, e307_79, m307, ↓reduceIte, qg_0, qg_1, qg_2, qg_3, qg_4, qg_5, qg_6, qg_7, qg_8, qg_9, qg_10, qg_11, qg_12, qg_13, not_true_eq_false, not_false_eq_true, Nat.reduceBEq, Bool.false_eq_true, ex1, ex3, ex4, exF, qfit_i, qfit_l, qfit_r, qfit_n, qfit_b0, qfit_b1, qcat_i, qcat_r, qcat_n, qcat_l, qroom_0, qroom_c, List.map_cons, List.map_nil, List.sum_cons, List.sum_nil, Nat.reduceAdd, Nat.reduceMul, Nat.reduceLT, Nat.reduceLeDiff, Nat.reduceEqDiff, Nat.reduceSub, decide_true, true_and, and_true, and_self, if_true, if_false, Option.toList_some, Option.toList_none, List.cons_append, List.nil_append, qsL, qlong, List.length_cons, List.length_nil, iN_L, vM1, vM2, exI, iN_add, iN_mul, iN_le, iN_lt, iN_eq, Nat.le_refl, qfN0, qfN1]
          by_cases q : ∃ b, c.1 = some b ∧ i ≠ b
          · obtain ⟨b, e1, e2⟩ := q
            have b99 := gk.1 b e1
            have hf : brkB bs c i = false := by unfold brkB; rw [e1]; dsimp only; rw [decide_eq_false e2]; rfl
            obtain ⟨r, r1, r2⟩ := skip hf
            refine ⟨r, fun R => ?_, r2⟩
            have eb : bV c.1 = iN b := by rw [e1]; rfl
            rw [← r1 R, eb, e307_41]
            simp (disch := first | assumption | omega) only [e307_0, e307_1, e307_2, e307_3, e307_4, e307_7, e307_8, e307_9, e307_10, e307_13, e307_16, e307_19, e307_20, e307_21, e307_24, e307_25, e307_26, e307_27, e307_28, e307_29, e307_30, e307_31, e307_34, e307_37, e307_38, e307_39, e307_40, e307_42, e307_43, e307_46, e307_49, e307_50, e307_53, e307_54, e307_55, e307_58, e307_59, e307_60, e307_61, e307_64, e307_67, e307_69, e307_70, e307_71, e307_75, e307_78, e307_79, m307, ↓reduceIte, qg_0, qg_1, qg_2, qg_3, qg_4, qg_5, qg_6, qg_7, qg_8, qg_9, qg_10, qg_11, qg_12, qg_13, not_true_eq_false, not_false_eq_true, Nat.reduceBEq, Bool.false_eq_true, ex1, ex3, ex4, exF, qfit_i, qfit_l, qfit_r, qfit_n, qfit_b0, qfit_b1, qcat_i, qcat_r, qcat_n, qcat_l, qroom_0, qroom_c, List.map_cons, List.map_nil, List.sum_cons, List.sum_nil, Nat.reduceAdd, Nat.reduceMul, Nat.reduceLT, Nat.reduceLeDiff, Nat.reduceEqDiff, Nat.reduceSub, decide_true, true_and, and_true, and_self, if_true, if_false, Option.toList_some, Option.toList_none, List.cons_append, List.nil_append, qsL, qlong, List.length_cons, List.length_nil, iN_L, vM1, vM2, exI, iN_add, iN_mul, iN_le, iN_lt, iN_eq, Nat.le_refl, qfN0, qfN1, gM_0, m0, show ¬ bs.length ≤ i by omega, show ¬ b < 0 by omega, e2]
          · have br : brkB bs c i = !hldB c (cel bs i c.2.1).length := by
              unfold brkB
              cases e : c.1 with
              | none => dsimp only; rw [Bool.true_and]
              | some b =>
                dsimp only
                have : i = b := by
                  rcases Nat.decEq i b with z | z
                  · exact absurd ⟨b, e, z⟩ q
                  · exact z
                rw [decide_eq_true this, Bool.true_and]
            have go : ∀ R, qEv (d + 2) 0 qk_307 41 [some (.ref 55), some (.int (iN k)), some (.int (bV c.1)), some (.int (iN i))] [] h R ↔ qEv (d + 2) 0 qk_307 58 [some (.ref 55), some (.int (iN k)), some (.int (bV c.1)), some (.int (iN i))] [] h R := by
              intro R
              rw [e307_41]
              cases e : c.1 with
              | none =>
                have l1 : bV none < iN 0 := by decide
                simp (disch := first | assumption | omega) only [e307_0, e307_1, e307_2, e307_3, e307_4, e307_7, e307_8, e307_9, e307_10, e307_13, e307_16, e307_19, e307_20, e307_21, e307_24, e307_25, e307_26, e307_27, e307_28, e307_29, e307_30, e307_31, e307_34, e307_37, e307_38, e307_39, e307_40, e307_42, e307_43, e307_46, e307_49, e307_50, e307_53, e307_54, e307_55, e307_59, e307_60, e307_61, e307_64, e307_67, e307_69, e307_70, e307_71, e307_75, e307_78, e307_79, m307, ↓reduceIte, qg_0, qg_1, qg_2, qg_3, qg_4, qg_5, qg_6, qg_7, qg_8, qg_9, qg_10, qg_11, qg_12, qg_13, not_true_eq_false, not_false_eq_true, Nat.reduceBEq, Bool.false_eq_true, ex1, ex3, ex4, exF, qfit_i, qfit_l, qfit_r, qfit_n, qfit_b0, qfit_b1, qcat_i, qcat_r, qcat_n, qcat_l, qroom_0, qroom_c, List.map_cons, List.map_nil, List.sum_cons, List.sum_nil, Nat.reduceAdd, Nat.reduceMul, Nat.reduceLT, Nat.reduceLeDiff, Nat.reduceEqDiff, Nat.reduceSub, decide_true, true_and, and_true, and_self, if_true, if_false, Option.toList_some, Option.toList_none, List.cons_append, List.nil_append, qsL, qlong, List.length_cons, List.length_nil, iN_L, vM1, vM2, exI, iN_add, iN_mul, iN_le, iN_lt, iN_eq, Nat.le_refl, qfN0, qfN1, gM_0, m0, show ¬ bs.length ≤ i by omega, l1]
              | some b =>
                have ei : i = b := by
                  rcases Nat.decEq i b with z | z
                  · exact absurd ⟨b, e, z⟩ q
                  · exact z
                have eb : bV (some b) = iN b := rfl
                subst ei
                rw [eb]
                simp (disch := first | assumption | omega) only [e307_0, e307_1, e307_2, e307_3, e307_4, e307_7, e307_8, e307_9, e307_10, e307_13, e307_16, e307_19, e307_20, e307_21, e307_24, e307_25, e307_26, e307_27, e307_28, e307_29, e307_30, e307_31, e307_34, e307_37, e307_38, e307_39, e307_40, e307_42, e307_43, e307_46, e307_49, e307_50, e307_53, e307_54, e307_55, e307_59, e307_60, e307_61, e307_64, e307_67, e307_69, e307_70, e307_71, e307_75, e307_78, e307_79, m307, ↓reduceIte, qg_0, qg_1, qg_2, qg_3, qg_4, qg_5, qg_6, qg_7, qg_8, qg_9, qg_10, qg_11, qg_12, qg_13, not_true_eq_false, not_false_eq_true, Nat.reduceBEq, Bool.false_eq_true, ex1, ex3, ex4, exF, qfit_i, qfit_l, qfit_r, qfit_n, qfit_b0, qfit_b1, qcat_i, qcat_r, qcat_n, qcat_l, qroom_0, qroom_c, List.map_cons, List.map_nil, List.sum_cons, List.sum_nil, Nat.reduceAdd, Nat.reduceMul, Nat.reduceLT, Nat.reduceLeDiff, Nat.reduceEqDiff, Nat.reduceSub, decide_true, true_and, and_true, and_self, if_true, if_false, Option.toList_some, Option.toList_none, List.cons_append, List.nil_append, qsL, qlong, List.length_cons, List.length_nil, iN_L, vM1, vM2, exI, iN_add, iN_mul, iN_le, iN_lt, iN_eq, Nat.le_refl, qfN0, qfN1, gM_0, m0, show ¬ bs.length ≤ i by omega, show ¬ i < 0 by omega]
            cases q2 : hldB c (cel bs i c.2.1).length with
            | true =>
              rw [q2, bN_t] at sh
              obtain ⟨r, r1, r2⟩ := skip (by rw [br, q2]; rfl)
              refine ⟨r, fun R => ?_, r2⟩
              rw [← r1 R, go R, e307_58]
              simp (disch := first | assumption | omega) only [e307_0, e307_1, e307_2, e307_3, e307_4, e307_7, e307_8, e307_9, e307_10, e307_13, e307_16, e307_19, e307_20, e307_21, e307_24, e307_25, e307_26, e307_27, e307_28, e307_29, e307_30, e307_31, e307_34, e307_37, e307_38, e307_39, e307_40, e307_42, e307_43, e307_46, e307_49, e307_50, e307_53, e307_54, e307_55, e307_59, e307_60, e307_61, e307_64, e307_67, e307_69, e307_70, e307_71, e307_75, e307_78, e307_79, m307, ↓reduceIte, qg_0, qg_1, qg_2, qg_3, qg_4, qg_5, qg_6, qg_7, qg_8, qg_9, qg_10, qg_11, qg_12, qg_13, not_true_eq_false, not_false_eq_true, Nat.reduceBEq, Bool.false_eq_true, ex1, ex3, ex4, exF, qfit_i, qfit_l, qfit_r, qfit_n, qfit_b0, qfit_b1, qcat_i, qcat_r, qcat_n, qcat_l, qroom_0, qroom_c, List.map_cons, List.map_nil, List.sum_cons, List.sum_nil, Nat.reduceAdd, Nat.reduceMul, Nat.reduceLT, Nat.reduceLeDiff, Nat.reduceEqDiff, Nat.reduceSub, decide_true, true_and, and_true, and_self, if_true, if_false, Option.toList_some, Option.toList_none, List.cons_append, List.nil_append, qsL, qlong, List.length_cons, List.length_nil, iN_L, vM1, vM2, exI, iN_add, iN_mul, iN_le, iN_lt, iN_eq, Nat.le_refl, qfN0, qfN1, sh, iN10]
            | false =>
              rw [q2, bN_f] at sh
              refine ⟨iN (100 + i), fun R => ?_, Or.inr ⟨i, ib, by rw [br, q2]; rfl, hj, rfl⟩⟩
              rw [go R, e307_58]
              simp (disch := first | assumption | omega) only [e307_0, e307_1, e307_2, e307_3, e307_4, e307_7, e307_8, e307_9, e307_10, e307_13, e307_16, e307_19, e307_20, e307_21, e307_24, e307_25, e307_26, e307_27, e307_28, e307_29, e307_30, e307_31, e307_34, e307_37, e307_38, e307_39, e307_40, e307_42, e307_43, e307_46, e307_49, e307_50, e307_53, e307_54, e307_55, e307_59, e307_60, e307_61, e307_64, e307_67, e307_69, e307_70, e307_71, e307_75, e307_78, e307_79, m307, ↓reduceIte, qg_0, qg_1, qg_2, qg_3, qg_4, qg_5, qg_6, qg_7, qg_8, qg_9, qg_10, qg_11, qg_12, qg_13, not_true_eq_false, not_false_eq_true, Nat.reduceBEq, Bool.false_eq_true, ex1, ex3, ex4, exF, qfit_i, qfit_l, qfit_r, qfit_n, qfit_b0, qfit_b1, qcat_i, qcat_r, qcat_n, qcat_l, qroom_0, qroom_c, List.map_cons, List.map_nil, List.sum_cons, List.sum_nil, Nat.reduceAdd, Nat.reduceMul, Nat.reduceLT, Nat.reduceLeDiff, Nat.reduceEqDiff, Nat.reduceSub, decide_true, true_and, and_true, and_self, if_true, if_false, Option.toList_some, Option.toList_none, List.cons_append, List.nil_append, qsL, qlong, List.length_cons, List.length_nil, iN_L, vM1, vM2, exI, iN_add, iN_mul, iN_le, iN_lt, iN_eq, Nat.le_refl, qfN0, qfN1, sh]
      obtain ⟨r, r1, r2⟩ := ih bs.length 0 (by omega) (fun j hj => absurd hj (Nat.not_lt_zero j))
      exact ⟨r, fun R => (start R).trans (r1 R), Or.inr ⟨k, ⟨hk, rfl⟩, Or.inr ⟨by rw [← ec]; exact hb2, by rw [← ec]; exact r2⟩⟩⟩
  · have hb : bI ((0 : Int64) ≤ x.toInt64 ∧ x.toInt64 ≤ (iN cm.length - iN 1).toInt64) = iN 0 := if_neg (fun w => hx (rn.mp w))
    refine ⟨-1001, fun R => ?_, Or.inl ⟨hx, rfl⟩⟩
    simp (disch := first | assumption | omega) only [e307_0, e307_1, e307_2, e307_3, e307_4, e307_7, e307_8, e307_9, e307_10, e307_13, e307_16, e307_19, e307_20, e307_21, e307_24, e307_25, e307_26, e307_27, e307_28, e307_29, e307_30, e307_31, e307_34, e307_37, e307_38, e307_39, e307_40, e307_42, e307_43, e307_46, e307_49, e307_50, e307_53, e307_54, e307_55, e307_58, e307_59, e307_60, e307_61, e307_64, e307_67, e307_69, e307_70, e307_71, e307_72, e307_75, e307_78, e307_79, m307, ↓reduceIte, qg_0, qg_1, qg_2, qg_3, qg_4, qg_5, qg_6, qg_7, qg_8, qg_9, qg_10, qg_11, qg_12, qg_13, not_true_eq_false, not_false_eq_true, Nat.reduceBEq, Bool.false_eq_true, ex1, ex3, ex4, exF, qfit_i, qfit_l, qfit_r, qfit_n, qfit_b0, qfit_b1, qcat_i, qcat_r, qcat_n, qcat_l, qroom_0, qroom_c, List.map_cons, List.map_nil, List.sum_cons, List.sum_nil, Nat.reduceAdd, Nat.reduceMul, Nat.reduceLT, Nat.reduceLeDiff, Nat.reduceEqDiff, Nat.reduceSub, decide_true, true_and, and_true, and_self, if_true, if_false, Option.toList_some, Option.toList_none, List.cons_append, List.nil_append, qsL, qlong, List.length_cons, List.length_nil, iN_L, vM1, vM2, exI, iN_add, iN_mul, iN_le, iN_lt, iN_eq, Nat.le_refl, qfN0, qfN1, s_in, gM_54, m54, hb]
end DOR

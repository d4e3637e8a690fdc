/-! ===== THE REFERENCE: both, product ===== -/
section BOTH
variable {d D : Nat} {h : qH} {bs : List bdy}
/-- which body is asked for -/
theorem is_body {i : Int32} {nb : Nat} (hn : nb ≤ 24) : (0 ≤ i ∧ i < iN nb) ↔ ∃ k, k < nb ∧ i = iN k := by
  constructor
  · rintro ⟨h1, h2⟩
    obtain ⟨k, hk, rfl⟩ := iN_of h1
    rw [iN_lt hk (by omega)] at h2
    exact ⟨k, h2, rfl⟩
  · rintro ⟨k, hk, rfl⟩
    rw [show (0 : Int32) = iN 0 from rfl, iN_le (by omega) (by omega), iN_lt (by omega) (by omega)]
    exact ⟨by omega, hk⟩
theorem s_isBody1 {i : Int32} {R : qRes} (s : ShM h) (B : BsM h bs) (hi' : ∃ k, k < bs.length ∧ i = iN k) : qMC (d + 2) 193 [.ref 55, .int i] h R ↔ R = (some (.int 1), h) := by
  have := B.1
  rw [s_isBody s B.2.1 (by omega), show bI (0 ≤ i ∧ i < iN bs.length) = 1 from if_pos ((is_body B.1).mpr hi')]
theorem s_isBody0 {i : Int32} {R : qRes} (s : ShM h) (B : BsM h bs) (hi' : ¬ ∃ k, k < bs.length ∧ i = iN k) : qMC (d + 2) 193 [.ref 55, .int i] h R ↔ R = (some (.int 0), h) := by
  have := B.1
  rw [s_isBody s B.2.1 (by omega), show bI (0 ≤ i ∧ i < iN bs.length) = 0 from if_neg (fun z => hi' ((is_body B.1).mp z))]
/-- corners, dimension of body k -/
noncomputable def cnr (bs : List bdy) (k : Nat) : List pt4 := crn (bs.getD k b0).1 (bs.getD k b0).2.1
def dmn (bs : List bdy) (k : Nat) : Nat := (bs.getD k b0).2.1
theorem BsM.corn {k : Nat} (B : BsM h bs) (hk : k < bs.length) : CornV h k (cnr bs k) := (B.2.2 k hk).2.2.corn (B.2.2 k hk).1
theorem BsM.dim {k : Nat} (B : BsM h bs) (hk : k < bs.length) : hi h 56 k = iN (dmn bs k) ∧ 2 ≤ dmn bs k ∧ dmn bs k ≤ 4 := by
  obtain ⟨o, -, b⟩ := B.2.2 k hk
  obtain ⟨f, S, Q, M, T, O, -, -, -, ⟨a1, -⟩, -⟩ := b
  exact ⟨a1, o.2.2.2.2⟩
theorem CornV.at {i : Nat} {cs : List pt4} (v : CornV h i cs) {c k : Nat} (hc : c < cs.length) (hk : k < 4) : hi h 59 (64 * i + 4 * c + k) = iZ (lP cs c k) := (v.2.2 c hc k hk).1
theorem CornV.ptB {i : Nat} {cs : List pt4} (v : CornV h i cs) {c : Nat} (hc : c < cs.length) : ptB (cs.getD c z4) := by
  intro k hk
  have := (v.2.2 c hc k hk).2
  unfold lP at this
  unfold iB; omega
theorem CornV.sm {i : Nat} {cs : List pt4} (v : CornV h i cs) : smP cs := by
  intro q hq k hk
  obtain ⟨p, hp, e⟩ := List.getElem_of_mem hq
  have := (v.2.2 p hp k hk).2
  unfold lP at this
  rw [lP_at hp, e] at this
  exact this
def tlP (h : qH) (D : Nat) (l cs : List pt4) (L : Nat → qL) : Nat → qL → qH → Prop := fun k L' h' => L' = L k ∧ Ch [63] [8, 9] h h' ∧ mi h' 8 = iN D ∧ PtV h' (tellAll D l (cs.take k))
set_option maxRecDepth 100000 in
set_option maxHeartbeats 16000000 in
theorem bt_loop1 {i j : Nat} {h1 : qH} {l : List pt4} (B : BsM h bs) (hi' : i < bs.length) (hl : l.length ≤ 100) (hD : D ≤ 4) (c : Ch [63] [8, 9] h h1) (d1 : mi h1 8 = iN D) (v1 : PtV h1 l) : ∃ h2, (∀ R, qEv (d + 7) 0 qk_229 51 [some (.ref 55), some (.int (iN i)), some (.int (iN j)), some (.int (iN 0))] [] h1 R ↔ qEv (d + 7) 0 qk_229 99 [some (.ref 55), some (.int (iN i)), some (.int (iN j)), some (.int (iN (cnr bs i).length))] [] h2 R) ∧ Ch [63] [8, 9] h h2 ∧ mi h2 8 = iN D ∧ PtV h2 (tellAll D l (cnr bs i)) := by
  have b24 := B.1
  have cl := (B.corn hi').2.1
  obtain ⟨L2, h2, ⟨rfl, c2', d2, v2⟩, r1⟩ := loop_inv (d := d + 7) (rt := 0) (K := qk_229) (pc := 51) (P := tlP h D l (cnr bs i) (fun k => [some (.ref 55), some (.int (iN i)), some (.int (iN j)), some (.int (iN k))])) (n := (cnr bs i).length) (fun k L h1 hk hP => by
    obtain ⟨rfl, c, d1, v1⟩ := hP
    have s1 := c.sh
    have B1 : BsM h1 bs := B.ch c (by decide) (by decide)
    have cv := B1.corn hi'
    have hlt : (tellAll D l ((cnr bs i).take k)).length < 256 := by
      have := tellAll_len D ((cnr bs i).take k) l
      rw [List.length_take] at this
      omega
    obtain ⟨h3, r3, c3', v3⟩ := s_tell (d := d + 5) s1 d1 (by omega) v1 hlt (cv.ptB hk)
    refine ⟨_, h3, ⟨rfl, c.trans (c3'.mono (by decide) (by decide)), (c3'.mi (by decide)).trans d1, by rw [tellAll_take hk]; exact v3⟩, fun R => ?_⟩
    rw [e229_51]
    have r3' : ∀ R, qMC (d + 7) 201 [.ref 55, .int (iZ (lP (cnr bs i) k 0)), .int (iZ (lP (cnr bs i) k 1)), .int (iZ (lP (cnr bs i) k 2)), .int (iZ (lP (cnr bs i) k 3))] h1 R ↔ R = (none, h3) := r3
    simp (disch := first | assumption | omega) only [e229_0, e229_1, e229_2, e229_5, e229_8, e229_9, e229_10, e229_13, e229_16, e229_19, e229_20, e229_21, e229_24, e229_25, e229_26, e229_27, e229_30, e229_31, e229_32, e229_35, e229_38, e229_39, e229_40, e229_41, e229_44, e229_45, e229_46, e229_49, e229_50, e229_52, e229_53, e229_56, e229_57, e229_58, e229_61, e229_62, e229_63, e229_64, e229_65, e229_66, e229_69, e229_70, e229_71, e229_72, e229_73, e229_76, e229_77, e229_78, e229_79, e229_80, e229_83, e229_84, e229_85, e229_86, e229_87, e229_90, e229_93, e229_96, e229_100, e229_101, e229_102, e229_103, e229_106, e229_107, e229_108, e229_111, e229_112, e229_113, e229_114, e229_115, e229_116, e229_119, e229_120, e229_121, e229_122, e229_123, e229_126, e229_127, e229_128, e229_129, e229_130, e229_133, e229_134, e229_135, e229_136, e229_137, e229_140, e229_143, e229_146, e229_149, e229_150, e229_153, m229, ↓reduceIte, qg_0, qg_1, qg_2, qg_3, qg_4, qg_5, qg_6, qg_7, qg_8, qg_9, qg_10, qg_11, qg_12, qg_13, not_true_eq_false, not_false_eq_true, Nat.reduceBEq, Bool.false_eq_true, ex1, ex3, ex4, exF, qfit_i, qfit_l, qfit_r, qfit_n, qfit_b0, qfit_b1, qcat_i, qcat_r, qcat_n, qcat_l, qroom_0, qroom_c, List.map_cons, List.map_nil, List.sum_cons, List.sum_nil, Nat.reduceAdd, Nat.reduceMul, Nat.reduceLT, Nat.reduceLeDiff, Nat.reduceEqDiff, Nat.reduceSub, decide_true, true_and, and_true, and_self, if_true, if_false, Option.toList_some, Option.toList_none, List.cons_append, List.nil_append, qsL, qlong, List.length_cons, List.length_nil, iN_L, gM_2, rM_57, cv.1, iN_le, show ¬ (cnr bs i).length ≤ k by omega, vM1, vM2, s_x s1, cv.at hk (show 0 < 4 by omega), cv.at hk (show 1 < 4 by omega), cv.at hk (show 2 < 4 by omega), cv.at hk (show 3 < 4 by omega), r3', exI, iN_add]) (L := [some (.ref 55), some (.int (iN i)), some (.int (iN j)), some (.int (iN 0))]) (h := h1) ⟨rfl, c, d1, v1⟩
  rw [List.take_length] at v2
  have s2 := c2'.sh
  have B2 : BsM h2 bs := B.ch c2' (by decide) (by decide)
  refine ⟨h2, fun R => ?_, c2', d2, v2⟩
  rw [r1 R, e229_51]
  simp (disch := first | assumption | omega) only [e229_0, e229_1, e229_2, e229_5, e229_8, e229_9, e229_10, e229_13, e229_16, e229_19, e229_20, e229_21, e229_24, e229_25, e229_26, e229_27, e229_30, e229_31, e229_32, e229_35, e229_38, e229_39, e229_40, e229_41, e229_44, e229_45, e229_46, e229_49, e229_50, e229_52, e229_53, e229_56, e229_57, e229_58, e229_61, e229_62, e229_63, e229_64, e229_65, e229_66, e229_69, e229_70, e229_71, e229_72, e229_73, e229_76, e229_77, e229_78, e229_79, e229_80, e229_83, e229_84, e229_85, e229_86, e229_87, e229_90, e229_93, e229_96, e229_100, e229_101, e229_102, e229_103, e229_106, e229_107, e229_108, e229_111, e229_112, e229_113, e229_114, e229_115, e229_116, e229_119, e229_120, e229_121, e229_122, e229_123, e229_126, e229_127, e229_128, e229_129, e229_130, e229_133, e229_134, e229_135, e229_136, e229_137, e229_140, e229_143, e229_146, e229_149, e229_150, e229_153, m229, ↓reduceIte, qg_0, qg_1, qg_2, qg_3, qg_4, qg_5, qg_6, qg_7, qg_8, qg_9, qg_10, qg_11, qg_12, qg_13, not_true_eq_false, not_false_eq_true, Nat.reduceBEq, Bool.false_eq_true, ex1, ex3, ex4, exF, qfit_i, qfit_l, qfit_r, qfit_n, qfit_b0, qfit_b1, qcat_i, qcat_r, qcat_n, qcat_l, qroom_0, qroom_c, List.map_cons, List.map_nil, List.sum_cons, List.sum_nil, Nat.reduceAdd, Nat.reduceMul, Nat.reduceLT, Nat.reduceLeDiff, Nat.reduceEqDiff, Nat.reduceSub, decide_true, true_and, and_true, and_self, if_true, if_false, Option.toList_some, Option.toList_none, List.cons_append, List.nil_append, qsL, qlong, List.length_cons, List.length_nil, gM_2, rM_57, (B2.corn hi').1, iN_le, Nat.le_refl]
set_option maxRecDepth 100000 in
set_option maxHeartbeats 16000000 in
theorem bt_loop2 {i j : Nat} {h1 : qH} {l : List pt4} (B : BsM h bs) (hi' : j < bs.length) (hl : l.length ≤ 100) (hD : D ≤ 4) (c : Ch [63] [8, 9] h h1) (d1 : mi h1 8 = iN D) (v1 : PtV h1 l) : ∃ h2, (∀ R, qEv (d + 7) 0 qk_229 101 [some (.ref 55), some (.int (iN i)), some (.int (iN j)), some (.int (iN 0))] [] h1 R ↔ qEv (d + 7) 0 qk_229 149 [some (.ref 55), some (.int (iN i)), some (.int (iN j)), some (.int (iN (cnr bs j).length))] [] h2 R) ∧ Ch [63] [8, 9] h h2 ∧ mi h2 8 = iN D ∧ PtV h2 (tellAll D l (cnr bs j)) := by
  have b24 := B.1
  have cl := (B.corn hi').2.1
  obtain ⟨L2, h2, ⟨rfl, c2', d2, v2⟩, r1⟩ := loop_inv (d := d + 7) (rt := 0) (K := qk_229) (pc := 101) (P := tlP h D l (cnr bs j) (fun k => [some (.ref 55), some (.int (iN i)), some (.int (iN j)), some (.int (iN k))])) (n := (cnr bs j).length) (fun k L h1 hk hP => by
    obtain ⟨rfl, c, d1, v1⟩ := hP
    have s1 := c.sh
    have B1 : BsM h1 bs := B.ch c (by decide) (by decide)
    have cv := B1.corn hi'
    have hlt : (tellAll D l ((cnr bs j).take k)).length < 256 := by
      have := tellAll_len D ((cnr bs j).take k) l
      rw [List.length_take] at this
      omega
    obtain ⟨h3, r3, c3', v3⟩ := s_tell (d := d + 5) s1 d1 (by omega) v1 hlt (cv.ptB hk)
    refine ⟨_, h3, ⟨rfl, c.trans (c3'.mono (by decide) (by decide)), (c3'.mi (by decide)).trans d1, by rw [tellAll_take hk]; exact v3⟩, fun R => ?_⟩
    rw [e229_101]
    have r3' : ∀ R, qMC (d + 7) 201 [.ref 55, .int (iZ (lP (cnr bs j) k 0)), .int (iZ (lP (cnr bs j) k 1)), .int (iZ (lP (cnr bs j) k 2)), .int (iZ (lP (cnr bs j) k 3))] h1 R ↔ R = (none, h3) := r3
    simp (disch := first | assumption | omega) only [e229_0, e229_1, e229_2, e229_5, e229_8, e229_9, e229_10, e229_13, e229_16, e229_19, e229_20, e229_21, e229_24, e229_25, e229_26, e229_27, e229_30, e229_31, e229_32, e229_35, e229_38, e229_39, e229_40, e229_41, e229_44, e229_45, e229_46, e229_49, e229_50, e229_51, e229_52, e229_53, e229_56, e229_57, e229_58, e229_61, e229_62, e229_63, e229_64, e229_65, e229_66, e229_69, e229_70, e229_71, e229_72, e229_73, e229_76, e229_77, e229_78, e229_79, e229_80, e229_83, e229_84, e229_85, e229_86, e229_87, e229_90, e229_93, e229_96, e229_99, e229_100, e229_102, e229_103, e229_106, e229_107, e229_108, e229_111, e229_112, e229_113, e229_114, e229_115, e229_116, e229_119, e229_120, e229_121, e229_122, e229_123, e229_126, e229_127, e229_128, e229_129, e229_130, e229_133, e229_134, e229_135, e229_136, e229_137, e229_140, e229_143, e229_146, e229_150, e229_153, m229, ↓reduceIte, qg_0, qg_1, qg_2, qg_3, qg_4, qg_5, qg_6, qg_7, qg_8, qg_9, qg_10, qg_11, qg_12, qg_13, not_true_eq_false, not_false_eq_true, Nat.reduceBEq, Bool.false_eq_true, ex1, ex3, ex4, exF, qfit_i, qfit_l, qfit_r, qfit_n, qfit_b0, qfit_b1, qcat_i, qcat_r, qcat_n, qcat_l, qroom_0, qroom_c, List.map_cons, List.map_nil, List.sum_cons, List.sum_nil, Nat.reduceAdd, Nat.reduceMul, Nat.reduceLT, Nat.reduceLeDiff, Nat.reduceEqDiff, Nat.reduceSub, decide_true, true_and, and_true, and_self, if_true, if_false, Option.toList_some, Option.toList_none, List.cons_append, List.nil_append, qsL, qlong, List.length_cons, List.length_nil, iN_L, gM_2, rM_57, cv.1, iN_le, show ¬ (cnr bs j).length ≤ k by omega, vM1, vM2, s_x s1, cv.at hk (show 0 < 4 by omega), cv.at hk (show 1 < 4 by omega), cv.at hk (show 2 < 4 by omega), cv.at hk (show 3 < 4 by omega), r3', exI, iN_add]) (L := [some (.ref 55), some (.int (iN i)), some (.int (iN j)), some (.int (iN 0))]) (h := h1) ⟨rfl, c, d1, v1⟩
  rw [List.take_length] at v2
  have s2 := c2'.sh
  have B2 : BsM h2 bs := B.ch c2' (by decide) (by decide)
  refine ⟨h2, fun R => ?_, c2', d2, v2⟩
  rw [r1 R, e229_101]
  simp (disch := first | assumption | omega) only [e229_0, e229_1, e229_2, e229_5, e229_8, e229_9, e229_10, e229_13, e229_16, e229_19, e229_20, e229_21, e229_24, e229_25, e229_26, e229_27, e229_30, e229_31, e229_32, e229_35, e229_38, e229_39, e229_40, e229_41, e229_44, e229_45, e229_46, e229_49, e229_50, e229_51, e229_52, e229_53, e229_56, e229_57, e229_58, e229_61, e229_62, e229_63, e229_64, e229_65, e229_66, e229_69, e229_70, e229_71, e229_72, e229_73, e229_76, e229_77, e229_78, e229_79, e229_80, e229_83, e229_84, e229_85, e229_86, e229_87, e229_90, e229_93, e229_96, e229_99, e229_100, e229_102, e229_103, e229_106, e229_107, e229_108, e229_111, e229_112, e229_113, e229_114, e229_115, e229_116, e229_119, e229_120, e229_121, e229_122, e229_123, e229_126, e229_127, e229_128, e229_129, e229_130, e229_133, e229_134, e229_135, e229_136, e229_137, e229_140, e229_143, e229_146, e229_150, e229_153, m229, ↓reduceIte, qg_0, qg_1, qg_2, qg_3, qg_4, qg_5, qg_6, qg_7, qg_8, qg_9, qg_10, qg_11, qg_12, qg_13, not_true_eq_false, not_false_eq_true, Nat.reduceBEq, Bool.false_eq_true, ex1, ex3, ex4, exF, qfit_i, qfit_l, qfit_r, qfit_n, qfit_b0, qfit_b1, qcat_i, qcat_r, qcat_n, qcat_l, qroom_0, qroom_c, List.map_cons, List.map_nil, List.sum_cons, List.sum_nil, Nat.reduceAdd, Nat.reduceMul, Nat.reduceLT, Nat.reduceLeDiff, Nat.reduceEqDiff, Nat.reduceSub, decide_true, true_and, and_true, and_self, if_true, if_false, Option.toList_some, Option.toList_none, List.cons_append, List.nil_append, qsL, qlong, List.length_cons, List.length_nil, gM_2, rM_57, (B2.corn hi').1, iN_le, Nat.le_refl]
end BOTH

/-! ===== THE REFERENCE: shadow ===== -/
section SHADOW
variable {d : Nat} {h : qH} {bs : List bdy}
/-- without coordinate k -/
def drp (k : Nat) (q : pt4) : pt4 := (co q (if 0 < k then 0 else 1), co q (if 1 < k then 1 else 2), co q (if 2 < k then 2 else 3), 0)
def drX (k t : Nat) : Nat := if t < k then t else t + 1
theorem drp_co (k : Nat) (q : pt4) : co (drp k q) 0 = co q (drX k 0) ∧ co (drp k q) 1 = co q (drX k 1) ∧ co (drp k q) 2 = co q (drX k 2) := ⟨rfl, rfl, rfl⟩
/-- the rule that k is a coordinate of the body -/
theorem in_lt {x : Int32} {D : Nat} (hD : 1 ≤ D ∧ D ≤ 4) : ((0 : Int64) ≤ x.toInt64 ∧ x.toInt64 ≤ (iN (D - 1)).toInt64) ↔ ∃ k, k < D ∧ x = iN k := by
  rw [show (0 : Int64) = (iN 0).toInt64 from rfl, i64_le, i64_le]
  constructor
  · rintro ⟨h1, h2⟩
    obtain ⟨k, hk, rfl⟩ := iN_of h1
    rw [iN_le hk (by omega)] at h2
    exact ⟨k, by omega, rfl⟩
  · rintro ⟨k, hk, rfl⟩
    rw [iN_le (by omega) (by omega), iN_le (by omega) (by omega)]
    omega
def shdL (k : Nat) (cs : List pt4) : List pt4 := cs.map (drp k)
theorem shdL_get {k c : Nat} {cs : List pt4} (hc : c < cs.length) : (shdL k cs).getD c z4 = drp k (cs.getD c z4) := by
  unfold shdL
  rw [List.getD_eq_getElem?_getD, List.getElem?_map, List.getElem?_eq_getElem hc, lP_at hc]; rfl
noncomputable def shdP (bs : List bdy) (i k : Nat) : List pt4 := tellAll (dmn bs i - 1) [] (shdL k (cnr bs i))
def shdR (bs : List bdy) (x y v : Int32) (bs' : List bdy) : Prop :=
  ((¬ ∃ i, i < bs.length ∧ x = iN i) ∧ v = -1001 ∧ bs' = bs) ∨ ∃ i, (i < bs.length ∧ x = iN i) ∧ (((dmn bs i = 2 ∨ ¬ ∃ k, k < dmn bs i ∧ y = iN k) ∧ v = -1002 ∧ bs' = bs) ∨ ∃ k, (dmn bs i ≠ 2 ∧ k < dmn bs i ∧ y = iN k) ∧ newB bs (shdP bs i k) (dmn bs i - 1) 1 v bs')
set_option maxRecDepth 100000 in
set_option maxHeartbeats 16000000 in
theorem sd_row {i k c : Nat} {h1 : qH} {x4 x5 : Option Value} (s1 : ShM h1) (B1 : BsM h1 bs) (hi' : i < bs.length) (hk : k < 4) (hc : c < (cnr bs i).length) : ∃ g, (∀ R, qEv (d + 7) 0 qk_225 58 [some (.ref 55), some (.int (iN i)), some (.int (iN k)), some (.int (iN c)), x4, x5] [] h1 R ↔ qEv (d + 7) 0 qk_225 117 [some (.ref 55), some (.int (iN i)), some (.int (iN k)), some (.int (iN c)), some (.int (iN 3)), some (.int (iN 4))] [] (sI h1 73 g) R) ∧ ∀ t, t < 3 → g t = iZ (lP (cnr bs i) c (drX k t)) := by
  have b24 := B1.1
  have cv := B1.corn hi'
  have cl := cv.2.1
  have k73 := kM_73 s1
  have sh : ∀ G, ShM (sI h1 73 G) := fun G => s1.rowI k73
  have BG : ∀ G, BsM (sI h1 73 G) bs := fun G => B1.ch (Ch.rowI (A := [73]) (J := []) s1 k73 (by decide)) (by decide) (by decide)
  obtain ⟨g0, eg0⟩ : ∃ g0, g0 = upd (hi h1 73) 3 (iN 0) := ⟨_, rfl⟩
  refine ⟨fun t => if t < 3 then iZ (lP (cnr bs i) c (drX k t)) else g0 t, fun R => ?_, fun t ht => if_pos ht⟩
  have r0 : qEv (d + 7) 0 qk_225 58 [some (.ref 55), some (.int (iN i)), some (.int (iN k)), some (.int (iN c)), x4, x5] [] h1 R ↔ qEv (d + 7) 0 qk_225 81 [some (.ref 55), some (.int (iN i)), some (.int (iN k)), some (.int (iN c)), some (.int (iN 0)), some (.int (iN 0))] [] (sI h1 73 g0) R := by
    rw [e225_58]
    simp (disch := first | assumption | omega) only [e225_0, e225_1, e225_2, e225_5, e225_8, e225_11, e225_12, e225_13, e225_16, e225_17, e225_18, e225_19, e225_22, e225_23, e225_24, e225_25, e225_26, e225_29, e225_30, e225_31, e225_32, e225_33, e225_34, e225_37, e225_40, e225_43, e225_44, e225_45, e225_46, e225_49, e225_50, e225_51, e225_52, e225_53, e225_56, e225_57, e225_59, e225_60, e225_63, e225_64, e225_65, e225_68, e225_69, e225_71, e225_72, e225_75, e225_76, e225_77, e225_78, e225_79, e225_83, e225_84, e225_87, e225_89, e225_90, e225_93, e225_94, e225_97, e225_99, e225_100, e225_101, e225_102, e225_104, e225_107, e225_108, e225_111, e225_114, e225_117, e225_118, e225_119, e225_122, e225_123, e225_124, e225_125, e225_128, e225_129, e225_130, e225_131, e225_134, e225_135, e225_136, e225_137, e225_140, e225_143, e225_146, e225_147, e225_150, m225, ↓reduceIte, qg_0, qg_1, qg_2, qg_3, qg_4, qg_5, qg_6, qg_7, qg_8, qg_9, qg_10, qg_11, qg_12, qg_13, not_true_eq_false, not_false_eq_true, Nat.reduceBEq, Bool.false_eq_true, ex1, ex3, ex4, exF, qfit_i, qfit_l, qfit_r, qfit_n, qfit_b0, qfit_b1, qcat_i, qcat_r, qcat_n, qcat_l, qroom_0, qroom_c, List.map_cons, List.map_nil, List.sum_cons, List.sum_nil, Nat.reduceAdd, Nat.reduceMul, Nat.reduceLT, Nat.reduceLeDiff, Nat.reduceEqDiff, Nat.reduceSub, decide_true, true_and, and_true, and_self, if_true, if_false, Option.toList_some, Option.toList_none, List.cons_append, List.nil_append, qsL, qlong, List.length_cons, List.length_nil, iN_L, gM_2, rM_57, cv.1, iN_le, show ¬ (cnr bs i).length ≤ c by omega, gM_23, wM_73, ← eg0]
  rw [r0]
  refine Iff.trans (loop_up (n := 4) (L := fun j => [some (.ref 55), some (.int (iN i)), some (.int (iN k)), some (.int (iN c)), some (.int (iN (if j ≤ k then j else j - 1))), some (.int (iN j))]) (H := fun j => sI h1 73 (fun t => if t < (if j ≤ k then j else j - 1) then iZ (lP (cnr bs i) c (drX k t)) else g0 t)) ?_) ?_
  · intro j hj
    try dsimp only
    rw [e225_81]
    obtain ⟨G, eG⟩ : ∃ G, G = fun t => if t < (if j ≤ k then j else j - 1) then iZ (lP (cnr bs i) c (drX k t)) else g0 t := ⟨_, rfl⟩
    rw [← eG]
    have sG := sh G
    have xr : hi (sI h1 73 G) 59 (64 * i + 4 * c + j) = iZ (lP (cnr bs i) c j) := by rw [hi_sI, if_neg (by decide)]; exact cv.at hc hj
    by_cases hjk : j = k
    · have e1 : (if j + 1 ≤ k then j + 1 else j + 1 - 1) = j := by rw [if_neg (by omega)]; omega
      have e2 : (if j ≤ k then j else j - 1) = j := if_pos (by omega)
      subst hjk
      rw [e1, e2]
      rw [e2] at eG
      simp (disch := first | assumption | omega) only [e225_0, e225_1, e225_2, e225_5, e225_8, e225_11, e225_12, e225_13, e225_16, e225_17, e225_18, e225_19, e225_22, e225_23, e225_24, e225_25, e225_26, e225_29, e225_30, e225_31, e225_32, e225_33, e225_34, e225_37, e225_40, e225_43, e225_44, e225_45, e225_46, e225_49, e225_50, e225_51, e225_52, e225_53, e225_56, e225_57, e225_58, e225_59, e225_60, e225_63, e225_64, e225_65, e225_68, e225_69, e225_71, e225_72, e225_75, e225_76, e225_77, e225_78, e225_79, e225_83, e225_84, e225_87, e225_89, e225_90, e225_93, e225_94, e225_97, e225_99, e225_100, e225_101, e225_102, e225_104, e225_107, e225_108, e225_111, e225_114, e225_118, e225_119, e225_122, e225_123, e225_124, e225_125, e225_128, e225_129, e225_130, e225_131, e225_134, e225_135, e225_136, e225_137, e225_140, e225_143, e225_146, e225_147, e225_150, m225, ↓reduceIte, qg_0, qg_1, qg_2, qg_3, qg_4, qg_5, qg_6, qg_7, qg_8, qg_9, qg_10, qg_11, qg_12, qg_13, not_true_eq_false, not_false_eq_true, Nat.reduceBEq, Bool.false_eq_true, ex1, ex3, ex4, exF, qfit_i, qfit_l, qfit_r, qfit_n, qfit_b0, qfit_b1, qcat_i, qcat_r, qcat_n, qcat_l, qroom_0, qroom_c, List.map_cons, List.map_nil, List.sum_cons, List.sum_nil, Nat.reduceAdd, Nat.reduceMul, Nat.reduceLT, Nat.reduceLeDiff, Nat.reduceEqDiff, Nat.reduceSub, decide_true, true_and, and_true, and_self, if_true, if_false, Option.toList_some, Option.toList_none, List.cons_append, List.nil_append, qsL, qlong, List.length_cons, List.length_nil, iN_L, iN_le, show ¬ 4 ≤ j by omega, iN_eq, exI, iN_add, eG]
    · have e1 : (if j + 1 ≤ k then j + 1 else j + 1 - 1) = (if j ≤ k then j else j - 1) + 1 := by
        by_cases q : j < k
        · rw [if_pos (by omega), if_pos (by omega)]
        · rw [if_neg (by omega), if_neg (by omega)]; omega
      have e3 : drX k (if j ≤ k then j else j - 1) = j := by
        unfold drX
        by_cases q : j < k
        · rw [if_pos (show j ≤ k by omega), if_pos q]
        · rw [if_neg (show ¬ j ≤ k by omega), if_neg (by omega)]; omega
      have hn3 : (if j ≤ k then j else j - 1) < 4 := by split <;> omega
      obtain ⟨m, em⟩ : ∃ m, m = (if j ≤ k then j else j - 1) := ⟨_, rfl⟩
      rw [e1, ← em]
      rw [← em] at e3 hn3 eG
      have eq1 : upd G m (iZ (lP (cnr bs i) c j)) = fun t => if t < m + 1 then iZ (lP (cnr bs i) c (drX k t)) else g0 t := by
        funext t
        rw [upd_at, eG]
        show (if t = m then _ else if t < m then _ else _) = _
        by_cases q : t = m
        · subst q; rw [if_pos rfl, if_pos (by omega), e3]
        · rw [if_neg q]
          by_cases q2 : t < m
          · rw [if_pos q2, if_pos (by omega)]
          · rw [if_neg q2, if_neg (by omega)]
      simp (disch := first | assumption | omega) only [e225_0, e225_1, e225_2, e225_5, e225_8, e225_11, e225_12, e225_13, e225_16, e225_17, e225_18, e225_19, e225_22, e225_23, e225_24, e225_25, e225_26, e225_29, e225_30, e225_31, e225_32, e225_33, e225_34, e225_37, e225_40, e225_43, e225_44, e225_45, e225_46, e225_49, e225_50, e225_51, e225_52, e225_53, e225_56, e225_57, e225_58, e225_59, e225_60, e225_63, e225_64, e225_65, e225_68, e225_69, e225_71, e225_72, e225_75, e225_76, e225_77, e225_78, e225_79, e225_83, e225_84, e225_87, e225_89, e225_90, e225_93, e225_94, e225_97, e225_99, e225_100, e225_101, e225_102, e225_104, e225_107, e225_108, e225_111, e225_114, e225_118, e225_119, e225_122, e225_123, e225_124, e225_125, e225_128, e225_129, e225_130, e225_131, e225_134, e225_135, e225_136, e225_137, e225_140, e225_143, e225_146, e225_147, e225_150, m225, ↓reduceIte, qg_0, qg_1, qg_2, qg_3, qg_4, qg_5, qg_6, qg_7, qg_8, qg_9, qg_10, qg_11, qg_12, qg_13, not_true_eq_false, not_false_eq_true, Nat.reduceBEq, Bool.false_eq_true, ex1, ex3, ex4, exF, qfit_i, qfit_l, qfit_r, qfit_n, qfit_b0, qfit_b1, qcat_i, qcat_r, qcat_n, qcat_l, qroom_0, qroom_c, List.map_cons, List.map_nil, List.sum_cons, List.sum_nil, Nat.reduceAdd, Nat.reduceMul, Nat.reduceLT, Nat.reduceLeDiff, Nat.reduceEqDiff, Nat.reduceSub, decide_true, true_and, and_true, and_self, if_true, if_false, Option.toList_some, Option.toList_none, List.cons_append, List.nil_append, qsL, qlong, List.length_cons, List.length_nil, iN_L, iN_le, show ¬ 4 ≤ j by omega, iN_eq, hjk, gM_23, vM1, vM2, s_x sG, xr, wM_73, hi_sI, sI_sI, eq1, exI, iN_add]
  · try dsimp only
    rw [e225_81, show (if 4 ≤ k then 4 else 4 - 1) = 3 from if_neg (by omega)]
    simp (disch := first | assumption | omega) only [e225_0, e225_1, e225_2, e225_5, e225_8, e225_11, e225_12, e225_13, e225_16, e225_17, e225_18, e225_19, e225_22, e225_23, e225_24, e225_25, e225_26, e225_29, e225_30, e225_31, e225_32, e225_33, e225_34, e225_37, e225_40, e225_43, e225_44, e225_45, e225_46, e225_49, e225_50, e225_51, e225_52, e225_53, e225_56, e225_57, e225_58, e225_59, e225_60, e225_63, e225_64, e225_65, e225_68, e225_69, e225_71, e225_72, e225_75, e225_76, e225_77, e225_78, e225_79, e225_83, e225_84, e225_87, e225_89, e225_90, e225_93, e225_94, e225_97, e225_99, e225_100, e225_101, e225_102, e225_104, e225_107, e225_108, e225_111, e225_114, e225_118, e225_119, e225_122, e225_123, e225_124, e225_125, e225_128, e225_129, e225_130, e225_131, e225_134, e225_135, e225_136, e225_137, e225_140, e225_143, e225_146, e225_147, e225_150, m225, ↓reduceIte, qg_0, qg_1, qg_2, qg_3, qg_4, qg_5, qg_6, qg_7, qg_8, qg_9, qg_10, qg_11, qg_12, qg_13, not_true_eq_false, not_false_eq_true, Nat.reduceBEq, Bool.false_eq_true, ex1, ex3, ex4, exF, qfit_i, qfit_l, qfit_r, qfit_n, qfit_b0, qfit_b1, qcat_i, qcat_r, qcat_n, qcat_l, qroom_0, qroom_c, List.map_cons, List.map_nil, List.sum_cons, List.sum_nil, Nat.reduceAdd, Nat.reduceMul, Nat.reduceLT, Nat.reduceLeDiff, Nat.reduceEqDiff, Nat.reduceSub, decide_true, true_and, and_true, and_self, if_true, if_false, Option.toList_some, Option.toList_none, List.cons_append, List.nil_append, qsL, qlong, List.length_cons, List.length_nil, iN_L, iN_le, Nat.le_refl]
def sdP (h : qH) (bs : List bdy) (i k D : Nat) : Nat → qL → qH → Prop := fun c L h' => ∃ x4 x5, L = [some (.ref 55), some (.int (iN i)), some (.int (iN k)), some (.int (iN c)), x4, x5] ∧ Ch [63, 73] [8, 9] h h' ∧ mi h' 8 = iN D ∧ PtV h' (tellAll D [] ((shdL k (cnr bs i)).take c))
set_option maxRecDepth 100000 in
set_option maxHeartbeats 16000000 in
theorem s_shadow (gg : geo) (s : ShM h) (B : BsM h bs) (x y : Int32) : ∃ v h' bs', (∀ R, qMC (d + 8) 225 [.ref 55, .int x, .int y] h R ↔ R = (some (.int v), h')) ∧ Ch ([56, 57, 58, 59, 60, 61, 62] ++ scrA) [0, 8, 9, 11] h h' ∧ BsM h' bs' ∧ shdR bs x y v bs' := by
  by_cases hx : ∃ i, i < bs.length ∧ x = iN i
  · obtain ⟨i, hi', rfl⟩ := id hx
    have b24 := B.1
    obtain ⟨di, di2, di4⟩ := B.dim hi'
    by_cases h2 : dmn bs i = 2
    · refine ⟨-1002, h, bs, fun R => ?_, Ch.refl s, B, Or.inr ⟨i, ⟨hi', rfl⟩, Or.inl ⟨Or.inl h2, rfl, rfl⟩⟩⟩
      have di' : hi h 56 i = 2 := by rw [di, h2]; rfl
      simp (disch := first | assumption | omega) only [e225_0, e225_1, e225_2, e225_5, e225_8, e225_11, e225_12, e225_13, e225_16, e225_17, e225_18, e225_19, e225_22, e225_23, e225_24, e225_25, e225_26, e225_29, e225_30, e225_31, e225_32, e225_33, e225_34, e225_37, e225_40, e225_43, e225_44, e225_45, e225_46, e225_49, e225_50, e225_51, e225_52, e225_53, e225_56, e225_57, e225_59, e225_60, e225_63, e225_64, e225_65, e225_68, e225_69, e225_71, e225_72, e225_75, e225_76, e225_77, e225_78, e225_79, e225_81, e225_83, e225_84, e225_87, e225_89, e225_90, e225_93, e225_94, e225_97, e225_99, e225_100, e225_101, e225_102, e225_104, e225_107, e225_108, e225_111, e225_114, e225_117, e225_118, e225_119, e225_122, e225_123, e225_124, e225_125, e225_128, e225_129, e225_130, e225_131, e225_134, e225_135, e225_136, e225_137, e225_140, e225_143, e225_146, e225_147, e225_150, m225, ↓reduceIte, qg_0, qg_1, qg_2, qg_3, qg_4, qg_5, qg_6, qg_7, qg_8, qg_9, qg_10, qg_11, qg_12, qg_13, not_true_eq_false, not_false_eq_true, Nat.reduceBEq, Bool.false_eq_true, ex1, ex3, ex4, exF, qfit_i, qfit_l, qfit_r, qfit_n, qfit_b0, qfit_b1, qcat_i, qcat_r, qcat_n, qcat_l, qroom_0, qroom_c, List.map_cons, List.map_nil, List.sum_cons, List.sum_nil, Nat.reduceAdd, Nat.reduceMul, Nat.reduceLT, Nat.reduceLeDiff, Nat.reduceEqDiff, Nat.reduceSub, decide_true, true_and, and_true, and_self, if_true, if_false, Option.toList_some, Option.toList_none, List.cons_append, List.nil_append, qsL, qlong, List.length_cons, List.length_nil, vM1, vM2, s_isBody1 (d := d + 5) s B hx, show ¬ (1 : Int32) = 0 by decide, gM_1, rM_56, di']
    have hne2 : ¬ iN (dmn bs i) = 2 := by rw [show (2 : Int32) = iN 2 from rfl, iN_eq (by omega) (by omega)]; exact h2
    have hsub : iN (dmn bs i) - 1 = iN (dmn bs i - 1) := iN_subL (by show 1 ≤ _; omega)
    by_cases hy : ∃ k, k < dmn bs i ∧ y = iN k
    · obtain ⟨k, hk, rfl⟩ := id hy
      have hb : bI ((0 : Int64) ≤ (iN k).toInt64 ∧ (iN k).toInt64 ≤ (iN (dmn bs i - 1)).toInt64) = 1 := if_pos ((in_lt (by omega)).mpr hy)
      obtain ⟨h1, eh1⟩ : ∃ h1, h1 = mI (mI h 8 (iN (dmn bs i - 1))) 9 0 := ⟨_, rfl⟩
      have c1 : Ch [63, 73] [8, 9] h h1 := by rw [eh1]; exact (Ch.setI s (by decide) (by decide)).trans (Ch.setI (s.setI (by decide)) (by decide) (by decide))
      have d1 : mi h1 8 = iN (dmn bs i - 1) := by rw [eh1, mi_mI, if_neg (by decide), mi_mI, if_pos rfl]
      have v1 : PtV h1 [] := ⟨by rw [eh1, mi_mI, if_pos rfl]; rfl, fun p hp => absurd hp (Nat.not_lt_zero p)⟩
      have ci := (B.corn hi').2.1
      have e0 : ([] : List pt4).length = 0 := rfl
      have sl : (shdL k (cnr bs i)).length = (cnr bs i).length := List.length_map ..
      obtain ⟨L2, h2', ⟨x4, x5, rfl, c2', d2, v2⟩, r2⟩ := loop_inv (d := d + 7) (rt := 0) (K := qk_225) (pc := 58) (P := sdP h bs i k (dmn bs i - 1)) (n := (cnr bs i).length) (fun c L h1 hc hP => by
        obtain ⟨x4, x5, rfl, ch, d1, v1⟩ := hP
        have s1 := ch.sh
        have B1 : BsM h1 bs := B.ch ch (by decide) (by decide)
        have cv := B1.corn hi'
        obtain ⟨g, r3, hg⟩ := sd_row (d := d) (x4 := x4) (x5 := x5) s1 B1 hi' (show k < 4 by omega) hc
        have k73 := kM_73 s1
        have cg : Ch [63, 73] [8, 9] h1 (sI h1 73 g) := Ch.rowI s1 k73 (by decide)
        have sg := cg.sh
        have vg : PtV (sI h1 73 g) (tellAll (dmn bs i - 1) [] ((shdL k (cnr bs i)).take c)) := by
          refine ⟨by rw [mi_sI k73]; exact v1.1, fun p hp t ht => ?_⟩
          rw [hi_sI, if_neg (by decide)]; exact v1.2 p hp t ht
        have hlt : (tellAll (dmn bs i - 1) [] ((shdL k (cnr bs i)).take c)).length < 256 := by
          have := tellAll_len (dmn bs i - 1) ((shdL k (cnr bs i)).take c) []
          rw [List.length_take] at this
          omega
        have hq : ptB (drp k ((cnr bs i).getD c z4)) := by
          have p := cv.ptB hc
          intro t ht
          match t, ht with
          | 0, _ => exact p _ (by split <;> omega)
          | 1, _ => exact p _ (by split <;> omega)
          | 2, _ => exact p _ (by split <;> omega)
          | 3, _ => show iB 0; unfold iB; omega
        obtain ⟨h3, r4, c3', v3⟩ := s_tell (d := d + 5) sg (show mi (sI h1 73 g) 8 = iN (dmn bs i - 1) by rw [mi_sI k73]; exact d1) (by omega) vg hlt hq
        refine ⟨_, h3, ⟨some (.int (iN 3)), some (.int (iN 4)), rfl, (ch.trans cg).trans (c3'.mono (by decide) (by decide)), ?_, by rw [tellAll_take (by rw [sl]; exact hc), shdL_get hc]; exact v3⟩, fun R => ?_⟩
        · rw [c3'.mi (by decide), mi_sI k73]; exact d1
        · rw [r3 R]
          have r4' : ∀ R, qMC (d + 7) 201 [.ref 55, .int (iZ (lP (cnr bs i) c (drX k 0))), .int (iZ (lP (cnr bs i) c (drX k 1))), .int (iZ (lP (cnr bs i) c (drX k 2))), .int (iN 0)] (sI h1 73 g) R ↔ R = (none, h3) := r4
          simp (disch := first | assumption | omega) only [e225_0, e225_1, e225_2, e225_5, e225_8, e225_11, e225_12, e225_13, e225_16, e225_17, e225_18, e225_19, e225_22, e225_23, e225_24, e225_25, e225_26, e225_29, e225_30, e225_31, e225_32, e225_33, e225_34, e225_37, e225_40, e225_43, e225_44, e225_45, e225_46, e225_49, e225_50, e225_51, e225_52, e225_53, e225_56, e225_57, e225_59, e225_60, e225_63, e225_64, e225_65, e225_68, e225_69, e225_71, e225_72, e225_75, e225_76, e225_77, e225_78, e225_79, e225_81, e225_83, e225_84, e225_87, e225_89, e225_90, e225_93, e225_94, e225_97, e225_99, e225_100, e225_101, e225_102, e225_104, e225_107, e225_108, e225_111, e225_114, e225_117, e225_118, e225_119, e225_122, e225_123, e225_124, e225_125, e225_128, e225_129, e225_130, e225_131, e225_134, e225_135, e225_136, e225_137, e225_140, e225_143, e225_146, e225_147, e225_150, m225, ↓reduceIte, qg_0, qg_1, qg_2, qg_3, qg_4, qg_5, qg_6, qg_7, qg_8, qg_9, qg_10, qg_11, qg_12, qg_13, not_true_eq_false, not_false_eq_true, Nat.reduceBEq, Bool.false_eq_true, ex1, ex3, ex4, exF, qfit_i, qfit_l, qfit_r, qfit_n, qfit_b0, qfit_b1, qcat_i, qcat_r, qcat_n, qcat_l, qroom_0, qroom_c, List.map_cons, List.map_nil, List.sum_cons, List.sum_nil, Nat.reduceAdd, Nat.reduceMul, Nat.reduceLT, Nat.reduceLeDiff, Nat.reduceEqDiff, Nat.reduceSub, decide_true, true_and, and_true, and_self, if_true, if_false, Option.toList_some, Option.toList_none, List.cons_append, List.nil_append, qsL, qlong, List.length_cons, List.length_nil, iN_L, gM_23, rM_73, hi_sI, hg 0 (by decide), hg 1 (by decide), hg 2 (by decide), vM1, vM2, r4', exI, iN_add]) (L := [some (.ref 55), some (.int (iN i)), some (.int (iN k)), some (.int (iN 0)), none, none]) (h := h1) ⟨none, none, rfl, c1, d1, v1⟩
      rw [show (shdL k (cnr bs i)).take (cnr bs i).length = shdL k (cnr bs i) by rw [← sl]; exact List.take_length] at v2
      have s2 := c2'.sh
      have B2 : BsM h2' bs := B.ch c2' (by decide) (by decide)
      have l2 := tellAll_len (dmn bs i - 1) (shdL k (cnr bs i)) []
      have o1 := okT0 (dmn bs i - 1) (shdL k (cnr bs i)) [] (okNil _)
      obtain ⟨v', h4, bs', r4, c4', nb, B4⟩ := s_makeOne (d := d) gg s2 B2 v2 (by omega) o1.1 o1.2 (by omega) d2
      refine ⟨v', h4, bs', fun R => ?_, (c2'.mono (by decide) (by decide)).trans (c4'.mono (by decide) (by decide)), B4, Or.inr ⟨i, ⟨hi', rfl⟩, Or.inr ⟨k, ⟨h2, hk, rfl⟩, nb⟩⟩⟩
      have A : qMC (d + 8) 225 [.ref 55, .int (iN i), .int (iN k)] h R ↔ qEv (d + 7) 0 qk_225 58 [some (.ref 55), some (.int (iN i)), some (.int (iN k)), some (.int (iN 0)), none, none] [] h1 R := by
        simp (disch := first | assumption | omega) only [e225_0, e225_1, e225_2, e225_5, e225_8, e225_11, e225_12, e225_13, e225_16, e225_17, e225_18, e225_19, e225_22, e225_23, e225_24, e225_25, e225_26, e225_29, e225_30, e225_31, e225_32, e225_33, e225_34, e225_37, e225_40, e225_43, e225_44, e225_45, e225_46, e225_49, e225_50, e225_51, e225_52, e225_53, e225_56, e225_57, e225_59, e225_60, e225_63, e225_64, e225_65, e225_68, e225_69, e225_71, e225_72, e225_75, e225_76, e225_77, e225_78, e225_79, e225_81, e225_83, e225_84, e225_87, e225_89, e225_90, e225_93, e225_94, e225_97, e225_99, e225_100, e225_101, e225_102, e225_104, e225_107, e225_108, e225_111, e225_114, e225_117, e225_118, e225_119, e225_122, e225_123, e225_124, e225_125, e225_128, e225_129, e225_130, e225_131, e225_134, e225_135, e225_136, e225_137, e225_140, e225_143, e225_146, e225_147, e225_150, m225, ↓reduceIte, qg_0, qg_1, qg_2, qg_3, qg_4, qg_5, qg_6, qg_7, qg_8, qg_9, qg_10, qg_11, qg_12, qg_13, not_true_eq_false, not_false_eq_true, Nat.reduceBEq, Bool.false_eq_true, ex1, ex3, ex4, exF, qfit_i, qfit_l, qfit_r, qfit_n, qfit_b0, qfit_b1, qcat_i, qcat_r, qcat_n, qcat_l, qroom_0, qroom_c, List.map_cons, List.map_nil, List.sum_cons, List.sum_nil, Nat.reduceAdd, Nat.reduceMul, Nat.reduceLT, Nat.reduceLeDiff, Nat.reduceEqDiff, Nat.reduceSub, decide_true, true_and, and_true, and_self, if_true, if_false, Option.toList_some, Option.toList_none, List.cons_append, List.nil_append, qsL, qlong, List.length_cons, List.length_nil, vM1, vM2, s_isBody1 (d := d + 5) s B hx, show ¬ (1 : Int32) = 0 by decide, gM_1, rM_56, di, hne2, hsub, s_in, hb, s_begin (d := d + 6) s, ← eh1]
        exact Iff.rfl
      rw [A, r2 R, e225_58]
      have r4' : ∀ R, qMC (d + 7) 224 [.ref 55] h2' R ↔ R = (some (.int v'), h4) := r4
      simp (disch := first | assumption | omega) only [e225_0, e225_1, e225_2, e225_5, e225_8, e225_11, e225_12, e225_13, e225_16, e225_17, e225_18, e225_19, e225_22, e225_23, e225_24, e225_25, e225_26, e225_29, e225_30, e225_31, e225_32, e225_33, e225_34, e225_37, e225_40, e225_43, e225_44, e225_45, e225_46, e225_49, e225_50, e225_51, e225_52, e225_53, e225_56, e225_57, e225_59, e225_60, e225_63, e225_64, e225_65, e225_68, e225_69, e225_71, e225_72, e225_75, e225_76, e225_77, e225_78, e225_79, e225_81, e225_83, e225_84, e225_87, e225_89, e225_90, e225_93, e225_94, e225_97, e225_99, e225_100, e225_101, e225_102, e225_104, e225_107, e225_108, e225_111, e225_114, e225_117, e225_118, e225_119, e225_122, e225_123, e225_124, e225_125, e225_128, e225_129, e225_130, e225_131, e225_134, e225_135, e225_136, e225_137, e225_140, e225_143, e225_146, e225_147, e225_150, m225, ↓reduceIte, qg_0, qg_1, qg_2, qg_3, qg_4, qg_5, qg_6, qg_7, qg_8, qg_9, qg_10, qg_11, qg_12, qg_13, not_true_eq_false, not_false_eq_true, Nat.reduceBEq, Bool.false_eq_true, ex1, ex3, ex4, exF, qfit_i, qfit_l, qfit_r, qfit_n, qfit_b0, qfit_b1, qcat_i, qcat_r, qcat_n, qcat_l, qroom_0, qroom_c, List.map_cons, List.map_nil, List.sum_cons, List.sum_nil, Nat.reduceAdd, Nat.reduceMul, Nat.reduceLT, Nat.reduceLeDiff, Nat.reduceEqDiff, Nat.reduceSub, decide_true, true_and, and_true, and_self, if_true, if_false, Option.toList_some, Option.toList_none, List.cons_append, List.nil_append, qsL, qlong, List.length_cons, List.length_nil, gM_2, rM_57, (B2.corn hi').1, iN_le, Nat.le_refl, vM1, vM2, r4']
    · refine ⟨-1002, h, bs, fun R => ?_, Ch.refl s, B, Or.inr ⟨i, ⟨hi', rfl⟩, Or.inl ⟨Or.inr hy, rfl, rfl⟩⟩⟩
      have hb : bI ((0 : Int64) ≤ y.toInt64 ∧ y.toInt64 ≤ (iN (dmn bs i - 1)).toInt64) = 0 := if_neg (fun z => hy ((in_lt (by omega)).mp z))
      simp (disch := first | assumption | omega) only [e225_0, e225_1, e225_2, e225_5, e225_8, e225_11, e225_12, e225_13, e225_16, e225_17, e225_18, e225_19, e225_22, e225_23, e225_24, e225_25, e225_26, e225_29, e225_30, e225_31, e225_32, e225_33, e225_34, e225_37, e225_40, e225_43, e225_44, e225_45, e225_46, e225_49, e225_50, e225_51, e225_52, e225_53, e225_56, e225_57, e225_59, e225_60, e225_63, e225_64, e225_65, e225_68, e225_69, e225_71, e225_72, e225_75, e225_76, e225_77, e225_78, e225_79, e225_81, e225_83, e225_84, e225_87, e225_89, e225_90, e225_93, e225_94, e225_97, e225_99, e225_100, e225_101, e225_102, e225_104, e225_107, e225_108, e225_111, e225_114, e225_117, e225_118, e225_119, e225_122, e225_123, e225_124, e225_125, e225_128, e225_129, e225_130, e225_131, e225_134, e225_135, e225_136, e225_137, e225_140, e225_143, e225_146, e225_147, e225_150, m225, ↓reduceIte, qg_0, qg_1, qg_2, qg_3, qg_4, qg_5, qg_6, qg_7, qg_8, qg_9, qg_10, qg_11, qg_12, qg_13, not_true_eq_false, not_false_eq_true, Nat.reduceBEq, Bool.false_eq_true, ex1, ex3, ex4, exF, qfit_i, qfit_l, qfit_r, qfit_n, qfit_b0, qfit_b1, qcat_i, qcat_r, qcat_n, qcat_l, qroom_0, qroom_c, List.map_cons, List.map_nil, List.sum_cons, List.sum_nil, Nat.reduceAdd, Nat.reduceMul, Nat.reduceLT, Nat.reduceLeDiff, Nat.reduceEqDiff, Nat.reduceSub, decide_true, true_and, and_true, and_self, if_true, if_false, Option.toList_some, Option.toList_none, List.cons_append, List.nil_append, qsL, qlong, List.length_cons, List.length_nil, vM1, vM2, s_isBody1 (d := d + 5) s B hx, show ¬ (1 : Int32) = 0 by decide, gM_1, rM_56, di, hne2, hsub, s_in, hb]
  · refine ⟨-1001, h, bs, fun R => ?_, Ch.refl s, B, Or.inl ⟨hx, rfl, rfl⟩⟩
    simp (disch := first | assumption | omega) only [e225_0, e225_1, e225_2, e225_5, e225_8, e225_11, e225_12, e225_13, e225_16, e225_17, e225_18, e225_19, e225_22, e225_23, e225_24, e225_25, e225_26, e225_29, e225_30, e225_31, e225_32, e225_33, e225_34, e225_37, e225_40, e225_43, e225_44, e225_45, e225_46, e225_49, e225_50, e225_51, e225_52, e225_53, e225_56, e225_57, e225_59, e225_60, e225_63, e225_64, e225_65, e225_68, e225_69, e225_71, e225_72, e225_75, e225_76, e225_77, e225_78, e225_79, e225_81, e225_83, e225_84, e225_87, e225_89, e225_90, e225_93, e225_94, e225_97, e225_99, e225_100, e225_101, e225_102, e225_104, e225_107, e225_108, e225_111, e225_114, e225_117, e225_118, e225_119, e225_122, e225_123, e225_124, e225_125, e225_128, e225_129, e225_130, e225_131, e225_134, e225_135, e225_136, e225_137, e225_140, e225_143, e225_146, e225_147, e225_150, m225, ↓reduceIte, qg_0, qg_1, qg_2, qg_3, qg_4, qg_5, qg_6, qg_7, qg_8, qg_9, qg_10, qg_11, qg_12, qg_13, not_true_eq_false, not_false_eq_true, Nat.reduceBEq, Bool.false_eq_true, ex1, ex3, ex4, exF, qfit_i, qfit_l, qfit_r, qfit_n, qfit_b0, qfit_b1, qcat_i, qcat_r, qcat_n, qcat_l, qroom_0, qroom_c, List.map_cons, List.map_nil, List.sum_cons, List.sum_nil, Nat.reduceAdd, Nat.reduceMul, Nat.reduceLT, Nat.reduceLeDiff, Nat.reduceEqDiff, Nat.reduceSub, decide_true, true_and, and_true, and_self, if_true, if_false, Option.toList_some, Option.toList_none, List.cons_append, List.nil_append, qsL, qlong, List.length_cons, List.length_nil, vM1, vM2, s_isBody0 (d := d + 5) s B hx]
end SHADOW

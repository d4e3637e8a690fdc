/-! ===== THE CLASS: shapes, shadows ===== -/
section XSHAPE
variable {d D : Nat} {h : qH} {R : qRes} {l : List pt4} {bs : List bdy} {sa : Nat → Nat}
theorem HtX.dim (v : HtX h D l) : xi h 19 3 = iN D := v.1
theorem rng_at {α : Type} {f : Nat → α} {n c : Nat} {z : α} (hc : c < n) : ((List.range n).map f).getD c z = f c := by
  rw [List.getD_eq_getElem?_getD, List.getElem?_map, List.getElem?_range hc]; rfl
set_option maxRecDepth 100000 in
set_option maxHeartbeats 16000000 in
theorem x_shpCube (s : ShX h) (hD : 2 ≤ D ∧ D ≤ 4) (v : HtX h D l) (m : Int32) : ∃ h', (∀ R, qMC (d + 3) 21 [.ref 19, .int (iN 0), .int m] h R ↔ R = (none, h')) ∧ ChX [20] [(19, 1), (19, 2)] 0 h h' ∧ HtX h' D (tellAll D l ((List.range (2 ^ D)).map cubP)) := by
  obtain ⟨qs, eqs⟩ : ∃ qs, qs = (List.range (2 ^ D)).map cubP := ⟨_, rfl⟩
  have ql : qs.length = 2 ^ D := by rw [eqs, List.length_map, List.length_range]
  have p16 : 2 ^ D ≤ 16 := show _ ≤ 2 ^ 4 from Nat.pow_le_pow_right (by decide) hD.2
  have sh : iN 1 <<< (iN D &&& iN 31) = iN (2 ^ D) := iN_shl1 D (by omega)
  rw [← eqs]
  have go : ∀ (w c : Nat) (g : qH), c + w = 2 ^ D → ChX [20] [(19, 1), (19, 2)] 0 h g → HtX g D (tellAll D l (qs.take c)) → ∃ h', (∀ R, qEv (d + 2) 4 qk_21 6 [some (.ref 19), some (.int (iN 0)), some (.int m), some (.int (iN c))] [] g R ↔ R = (none, h')) ∧ ChX [20] [(19, 1), (19, 2)] 0 h h' ∧ HtX h' D (tellAll D l qs) := by
    intro w
    induction w with
    | zero =>
      intro c g hc cg vg
      have sg := cg.sh
      have dm := vg.dim
      refine ⟨g, fun R => ?_, cg, by rw [show qs.take c = qs from List.take_of_length_le (by omega)] at vg; exact vg⟩
      rw [e21_6]
      simp (disch := first | assumption | omega) only [e21_0, e21_1, e21_4, e21_5, e21_7, e21_8, e21_9, e21_12, e21_13, e21_16, e21_17, e21_18, e21_19, e21_20, e21_21, e21_22, e21_23, e21_24, e21_25, e21_26, e21_27, e21_28, e21_29, e21_30, e21_31, e21_32, e21_33, e21_34, e21_35, e21_38, e21_41, e21_44, e21_47, e21_48, e21_49, e21_52, e21_53, e21_54, e21_55, e21_56, e21_59, e21_60, e21_61, e21_62, e21_63, e21_64, e21_65, e21_66, e21_67, e21_68, e21_69, e21_70, e21_71, e21_72, e21_73, e21_74, e21_75, e21_76, e21_79, e21_82, e21_85, e21_88, e21_89, e21_90, e21_93, e21_94, e21_95, e21_96, e21_97, e21_98, e21_101, e21_102, e21_103, e21_104, e21_105, e21_108, e21_111, e21_112, e21_113, e21_114, e21_117, e21_118, e21_119, e21_122, e21_123, e21_124, e21_125, e21_128, e21_131, e21_134, m21, ↓reduceIte, qg_0, qg_1, qg_2, qg_3, qg_4, qg_5, qg_6, qg_7, qg_8, qg_9, qg_10, qg_11, qg_12, qg_13, not_true_eq_false, not_false_eq_true, Nat.reduceBEq, Bool.false_eq_true, ex1, ex3, ex4, exF, qfit_i, qfit_l, qfit_r, qfit_n, qfit_b0, qfit_b1, qcat_i, qcat_r, qcat_n, qcat_l, qroom_0, qroom_c, List.map_cons, List.map_nil, List.sum_cons, List.sum_nil, Nat.reduceAdd, Nat.reduceMul, Nat.reduceLT, Nat.reduceLeDiff, Nat.reduceEqDiff, Nat.reduceSub, decide_true, true_and, and_true, and_self, if_true, if_false, Option.toList_some, Option.toList_none, List.cons_append, List.nil_append, qsL, qlong, List.length_cons, List.length_nil, iN_L, exI, iN_add, iN_mul, iN_le, iN_lt, iN_eq, Nat.le_refl, qfN0, qfN1, uX_16, vX_16, uX_19, vX_19, uX_27, vX_27, uX_30, vX_30, uX_39, vX_39, uX_41, vX_41, uX_43, vX_43, uX_46, vX_46, uX_50, vX_50, uX_53, vX_53, gX_19_3, dm, sh, show 2 ^ D ≤ c by omega]
    | succ w ih =>
      intro c g hc cg vg
      have sg := cg.sh
      have dm := vg.dim
      have hq : ptB (cubP c) := fun k hk => by
        unfold cubP
        match k, hk with
        | 0, _ => show iB ((c % 2 : Nat) : Int); unfold iB; omega
        | 1, _ => show iB ((c / 2 % 2 : Nat) : Int); unfold iB; omega
        | 2, _ => show iB ((c / 4 % 2 : Nat) : Int); unfold iB; omega
        | 3, _ => show iB ((c / 8 % 2 : Nat) : Int); unfold iB; omega
      obtain ⟨g', rt, ct, vt⟩ := x_tell (d := d + 1) (q := cubP c) sg (by omega) vg hq
      have qa : qs.getD c z4 = cubP c := by rw [eqs]; exact rng_at (by omega)
      rw [← qa, ← tellAll_take (by omega)] at vt
      obtain ⟨h', r', c', v'⟩ := ih (c + 1) g' (by omega) (cg.trans0 ct) vt
      refine ⟨h', fun R => ?_, c', v'⟩
      have rt' : ∀ R, qMC (d + 2) 14 [.ref 19, .int (iN (c % 2)), .int (iN (c / 2 % 2)), .int (iN (c / 4 % 2)), .int (iN (c / 8 % 2))] g R ↔ R = (none, g') := fun R => by
        have := rt R
        simp only [cubP, iZ_nat] at this
        exact this
      have s1 : iN c >>> (iN 1 &&& iN 31) &&& iN 1 = iN (c / 2 % 2) := by rw [iN_shr (by omega) (by omega), iN_one, shr1]
      have s2 : iN c >>> (iN 2 &&& iN 31) &&& iN 1 = iN (c / 4 % 2) := by rw [iN_shr (by omega) (by omega), iN_one, Nat.shiftRight_eq_div_pow]
      have s3 : iN c >>> (iN 3 &&& iN 31) &&& iN 1 = iN (c / 8 % 2) := by rw [iN_shr (by omega) (by omega), iN_one, Nat.shiftRight_eq_div_pow]
      rw [← r' R, e21_6]
      simp (disch := first | assumption | omega) only [e21_0, e21_1, e21_4, e21_5, e21_7, e21_8, e21_9, e21_12, e21_13, e21_16, e21_17, e21_18, e21_19, e21_20, e21_21, e21_22, e21_23, e21_24, e21_25, e21_26, e21_27, e21_28, e21_29, e21_30, e21_31, e21_32, e21_33, e21_34, e21_35, e21_38, e21_41, e21_44, e21_47, e21_48, e21_49, e21_52, e21_53, e21_54, e21_55, e21_56, e21_59, e21_60, e21_61, e21_62, e21_63, e21_64, e21_65, e21_66, e21_67, e21_68, e21_69, e21_70, e21_71, e21_72, e21_73, e21_74, e21_75, e21_76, e21_79, e21_82, e21_85, e21_88, e21_89, e21_90, e21_93, e21_94, e21_95, e21_96, e21_97, e21_98, e21_101, e21_102, e21_103, e21_104, e21_105, e21_108, e21_111, e21_112, e21_113, e21_114, e21_117, e21_118, e21_119, e21_122, e21_123, e21_124, e21_125, e21_128, e21_131, e21_134, m21, ↓reduceIte, qg_0, qg_1, qg_2, qg_3, qg_4, qg_5, qg_6, qg_7, qg_8, qg_9, qg_10, qg_11, qg_12, qg_13, not_true_eq_false, not_false_eq_true, Nat.reduceBEq, Bool.false_eq_true, ex1, ex3, ex4, exF, qfit_i, qfit_l, qfit_r, qfit_n, qfit_b0, qfit_b1, qcat_i, qcat_r, qcat_n, qcat_l, qroom_0, qroom_c, List.map_cons, List.map_nil, List.sum_cons, List.sum_nil, Nat.reduceAdd, Nat.reduceMul, Nat.reduceLT, Nat.reduceLeDiff, Nat.reduceEqDiff, Nat.reduceSub, decide_true, true_and, and_true, and_self, if_true, if_false, Option.toList_some, Option.toList_none, List.cons_append, List.nil_append, qsL, qlong, List.length_cons, List.length_nil, iN_L, exI, iN_add, iN_mul, iN_le, iN_lt, iN_eq, Nat.le_refl, qfN0, qfN1, uX_16, vX_16, uX_19, vX_19, uX_27, vX_27, uX_30, vX_30, uX_39, vX_39, uX_41, vX_41, uX_43, vX_43, uX_46, vX_46, uX_50, vX_50, uX_53, vX_53, gX_19_3, dm, sh, show ¬ 2 ^ D ≤ c by omega, iN_one c, s1, s2, s3, rt']
  obtain ⟨h', r', c', v'⟩ := go (2 ^ D) 0 h (by omega) (ChX.refl s) v
  refine ⟨h', fun R => ?_, c', v'⟩
  rw [← r' R]
  simp (disch := first | assumption | omega) only [e21_0, e21_1, e21_4, e21_5, e21_7, e21_8, e21_9, e21_12, e21_13, e21_16, e21_17, e21_18, e21_19, e21_20, e21_21, e21_22, e21_23, e21_24, e21_25, e21_26, e21_27, e21_28, e21_29, e21_30, e21_31, e21_32, e21_33, e21_34, e21_35, e21_38, e21_41, e21_44, e21_47, e21_48, e21_49, e21_52, e21_53, e21_54, e21_55, e21_56, e21_59, e21_60, e21_61, e21_62, e21_63, e21_64, e21_65, e21_66, e21_67, e21_68, e21_69, e21_70, e21_71, e21_72, e21_73, e21_74, e21_75, e21_76, e21_79, e21_82, e21_85, e21_88, e21_89, e21_90, e21_93, e21_94, e21_95, e21_96, e21_97, e21_98, e21_101, e21_102, e21_103, e21_104, e21_105, e21_108, e21_111, e21_112, e21_113, e21_114, e21_117, e21_118, e21_119, e21_122, e21_123, e21_124, e21_125, e21_128, e21_131, e21_134, m21, ↓reduceIte, qg_0, qg_1, qg_2, qg_3, qg_4, qg_5, qg_6, qg_7, qg_8, qg_9, qg_10, qg_11, qg_12, qg_13, not_true_eq_false, not_false_eq_true, Nat.reduceBEq, Bool.false_eq_true, ex1, ex3, ex4, exF, qfit_i, qfit_l, qfit_r, qfit_n, qfit_b0, qfit_b1, qcat_i, qcat_r, qcat_n, qcat_l, qroom_0, qroom_c, List.map_cons, List.map_nil, List.sum_cons, List.sum_nil, Nat.reduceAdd, Nat.reduceMul, Nat.reduceLT, Nat.reduceLeDiff, Nat.reduceEqDiff, Nat.reduceSub, decide_true, true_and, and_true, and_self, if_true, if_false, Option.toList_some, Option.toList_none, List.cons_append, List.nil_append, qsL, qlong, List.length_cons, List.length_nil, iN_L, exI, iN_add, iN_mul, iN_le, iN_lt, iN_eq, Nat.le_refl, qfN0, qfN1, uX_16, vX_16, uX_19, vX_19, uX_27, vX_27, uX_30, vX_30, uX_39, vX_39, uX_41, vX_41, uX_43, vX_43, uX_46, vX_46, uX_50, vX_50, uX_53, vX_53]
set_option maxRecDepth 100000 in
set_option maxHeartbeats 16000000 in
theorem x_shpRound {m : Nat} (s : ShX h) (hD : 2 ≤ D ∧ D ≤ 4) (v : HtX h D l) (hm : m ≤ 16) : ∃ h', (∀ R, qMC (d + 3) 21 [.ref 19, .int (iN 3), .int (iN m)] h R ↔ R = (none, h')) ∧ ChX [20] [(19, 1), (19, 2)] 0 h h' ∧ HtX h' D (tellAll D l ((List.range m).map rndP)) := by
  obtain ⟨qs, eqs⟩ : ∃ qs, qs = (List.range m).map rndP := ⟨_, rfl⟩
  have ql : qs.length = m := by rw [eqs, List.length_map, List.length_range]
  rw [← eqs]
  have go : ∀ (w c : Nat) (g : qH), c + w = m → ChX [20] [(19, 1), (19, 2)] 0 h g → HtX g D (tellAll D l (qs.take c)) → ∃ h', (∀ R, qEv (d + 2) 4 qk_21 54 [some (.ref 19), some (.int (iN 3)), some (.int (iN m)), some (.int (iN c))] [] g R ↔ R = (none, h')) ∧ ChX [20] [(19, 1), (19, 2)] 0 h h' ∧ HtX h' D (tellAll D l qs) := by
    intro w
    induction w with
    | zero =>
      intro c g hc cg vg
      have sg := cg.sh
      refine ⟨g, fun R => ?_, cg, by rw [show qs.take c = qs from List.take_of_length_le (by omega)] at vg; exact vg⟩
      rw [e21_54]
      simp (disch := first | assumption | omega) only [e21_0, e21_1, e21_4, e21_5, e21_6, e21_7, e21_8, e21_9, e21_12, e21_13, e21_16, e21_17, e21_18, e21_19, e21_20, e21_21, e21_22, e21_23, e21_24, e21_25, e21_26, e21_27, e21_28, e21_29, e21_30, e21_31, e21_32, e21_33, e21_34, e21_35, e21_38, e21_41, e21_44, e21_47, e21_48, e21_49, e21_52, e21_53, e21_55, e21_56, e21_59, e21_60, e21_61, e21_62, e21_63, e21_64, e21_65, e21_66, e21_67, e21_68, e21_69, e21_70, e21_71, e21_72, e21_73, e21_74, e21_75, e21_76, e21_79, e21_82, e21_85, e21_88, e21_89, e21_90, e21_93, e21_94, e21_95, e21_96, e21_97, e21_98, e21_101, e21_102, e21_103, e21_104, e21_105, e21_108, e21_111, e21_112, e21_113, e21_114, e21_117, e21_118, e21_119, e21_122, e21_123, e21_124, e21_125, e21_128, e21_131, e21_134, m21, ↓reduceIte, qg_0, qg_1, qg_2, qg_3, qg_4, qg_5, qg_6, qg_7, qg_8, qg_9, qg_10, qg_11, qg_12, qg_13, not_true_eq_false, not_false_eq_true, Nat.reduceBEq, Bool.false_eq_true, ex1, ex3, ex4, exF, qfit_i, qfit_l, qfit_r, qfit_n, qfit_b0, qfit_b1, qcat_i, qcat_r, qcat_n, qcat_l, qroom_0, qroom_c, List.map_cons, List.map_nil, List.sum_cons, List.sum_nil, Nat.reduceAdd, Nat.reduceMul, Nat.reduceLT, Nat.reduceLeDiff, Nat.reduceEqDiff, Nat.reduceSub, decide_true, true_and, and_true, and_self, if_true, if_false, Option.toList_some, Option.toList_none, List.cons_append, List.nil_append, qsL, qlong, List.length_cons, List.length_nil, iN_L, exI, iN_add, iN_mul, iN_le, iN_lt, iN_eq, Nat.le_refl, qfN0, qfN1, uX_16, vX_16, uX_19, vX_19, uX_27, vX_27, uX_30, vX_30, uX_39, vX_39, uX_41, vX_41, uX_43, vX_43, uX_46, vX_46, uX_50, vX_50, uX_53, vX_53, show m ≤ c by omega]
    | succ w ih =>
      intro c g hc cg vg
      have sg := cg.sh
      have c15 : c ≤ 15 := by omega
      have m2 : c * c ≤ 15 * 15 := Nat.mul_le_mul c15 c15
      have m3 : c * c * c ≤ 15 * 15 * 15 := Nat.mul_le_mul m2 c15
      have m4 : c * c * c * c ≤ 15 * 15 * 15 * 15 := Nat.mul_le_mul m3 c15
      have hq : ptB (rndP c) := fun k hk => by
        unfold rndP
        match k, hk with
        | 0, _ => show iB (c : Int); unfold iB; omega
        | 1, _ => show iB ((c * c : Nat) : Int); unfold iB; omega
        | 2, _ => show iB ((c * c * c : Nat) : Int); unfold iB; omega
        | 3, _ => show iB ((c * c * c * c : Nat) : Int); unfold iB; omega
      obtain ⟨g', rt, ct, vt⟩ := x_tell (d := d + 1) (q := rndP c) sg (by omega) vg hq
      have qa : qs.getD c z4 = rndP c := by rw [eqs]; exact rng_at (by omega)
      rw [← qa, ← tellAll_take (by omega)] at vt
      obtain ⟨h', r', c', v'⟩ := ih (c + 1) g' (by omega) (cg.trans0 ct) vt
      refine ⟨h', fun R => ?_, c', v'⟩
      have rt' : ∀ R, qMC (d + 2) 14 [.ref 19, .int (iN c), .int (iN (c * c)), .int (iN (c * c * c)), .int (iN (c * c * c * c))] g R ↔ R = (none, g') := fun R => by
        have := rt R
        simp only [rndP, iZ_nat] at this
        exact this
      rw [← r' R, e21_54]
      simp (disch := first | assumption | omega) only [e21_0, e21_1, e21_4, e21_5, e21_6, e21_7, e21_8, e21_9, e21_12, e21_13, e21_16, e21_17, e21_18, e21_19, e21_20, e21_21, e21_22, e21_23, e21_24, e21_25, e21_26, e21_27, e21_28, e21_29, e21_30, e21_31, e21_32, e21_33, e21_34, e21_35, e21_38, e21_41, e21_44, e21_47, e21_48, e21_49, e21_52, e21_53, e21_55, e21_56, e21_59, e21_60, e21_61, e21_62, e21_63, e21_64, e21_65, e21_66, e21_67, e21_68, e21_69, e21_70, e21_71, e21_72, e21_73, e21_74, e21_75, e21_76, e21_79, e21_82, e21_85, e21_88, e21_89, e21_90, e21_93, e21_94, e21_95, e21_96, e21_97, e21_98, e21_101, e21_102, e21_103, e21_104, e21_105, e21_108, e21_111, e21_112, e21_113, e21_114, e21_117, e21_118, e21_119, e21_122, e21_123, e21_124, e21_125, e21_128, e21_131, e21_134, m21, ↓reduceIte, qg_0, qg_1, qg_2, qg_3, qg_4, qg_5, qg_6, qg_7, qg_8, qg_9, qg_10, qg_11, qg_12, qg_13, not_true_eq_false, not_false_eq_true, Nat.reduceBEq, Bool.false_eq_true, ex1, ex3, ex4, exF, qfit_i, qfit_l, qfit_r, qfit_n, qfit_b0, qfit_b1, qcat_i, qcat_r, qcat_n, qcat_l, qroom_0, qroom_c, List.map_cons, List.map_nil, List.sum_cons, List.sum_nil, Nat.reduceAdd, Nat.reduceMul, Nat.reduceLT, Nat.reduceLeDiff, Nat.reduceEqDiff, Nat.reduceSub, decide_true, true_and, and_true, and_self, if_true, if_false, Option.toList_some, Option.toList_none, List.cons_append, List.nil_append, qsL, qlong, List.length_cons, List.length_nil, iN_L, exI, iN_add, iN_mul, iN_le, iN_lt, iN_eq, Nat.le_refl, qfN0, qfN1, uX_16, vX_16, uX_19, vX_19, uX_27, vX_27, uX_30, vX_30, uX_39, vX_39, uX_41, vX_41, uX_43, vX_43, uX_46, vX_46, uX_50, vX_50, uX_53, vX_53, show ¬ m ≤ c by omega, rt']
  obtain ⟨h', r', c', v'⟩ := go m 0 h (by omega) (ChX.refl s) v
  refine ⟨h', fun R => ?_, c', v'⟩
  rw [← r' R]
  simp (disch := first | assumption | omega) only [e21_0, e21_1, e21_4, e21_5, e21_6, e21_7, e21_8, e21_9, e21_12, e21_13, e21_16, e21_17, e21_18, e21_19, e21_20, e21_21, e21_22, e21_23, e21_24, e21_25, e21_26, e21_27, e21_28, e21_29, e21_30, e21_31, e21_32, e21_33, e21_34, e21_35, e21_38, e21_41, e21_44, e21_47, e21_48, e21_49, e21_52, e21_53, e21_55, e21_56, e21_59, e21_60, e21_61, e21_62, e21_63, e21_64, e21_65, e21_66, e21_67, e21_68, e21_69, e21_70, e21_71, e21_72, e21_73, e21_74, e21_75, e21_76, e21_79, e21_82, e21_85, e21_88, e21_89, e21_90, e21_93, e21_94, e21_95, e21_96, e21_97, e21_98, e21_101, e21_102, e21_103, e21_104, e21_105, e21_108, e21_111, e21_112, e21_113, e21_114, e21_117, e21_118, e21_119, e21_122, e21_123, e21_124, e21_125, e21_128, e21_131, e21_134, m21, ↓reduceIte, qg_0, qg_1, qg_2, qg_3, qg_4, qg_5, qg_6, qg_7, qg_8, qg_9, qg_10, qg_11, qg_12, qg_13, not_true_eq_false, not_false_eq_true, Nat.reduceBEq, Bool.false_eq_true, ex1, ex3, ex4, exF, qfit_i, qfit_l, qfit_r, qfit_n, qfit_b0, qfit_b1, qcat_i, qcat_r, qcat_n, qcat_l, qroom_0, qroom_c, List.map_cons, List.map_nil, List.sum_cons, List.sum_nil, Nat.reduceAdd, Nat.reduceMul, Nat.reduceLT, Nat.reduceLeDiff, Nat.reduceEqDiff, Nat.reduceSub, decide_true, true_and, and_true, and_self, if_true, if_false, Option.toList_some, Option.toList_none, List.cons_append, List.nil_append, qsL, qlong, List.length_cons, List.length_nil, iN_L, exI, iN_add, iN_mul, iN_le, iN_lt, iN_eq, Nat.le_refl, qfN0, qfN1, uX_16, vX_16, uX_19, vX_19, uX_27, vX_27, uX_30, vX_30, uX_39, vX_39, uX_41, vX_41, uX_43, vX_43, uX_46, vX_46, uX_50, vX_50, uX_53, vX_53]
set_option maxRecDepth 100000 in
set_option maxHeartbeats 16000000 in
theorem x_tellWithout {r t a : Nat} {p : pt4} (s : ShX h) (hD : D < 1000) (v : HtX h D l) (sp : spX h r t p) (ht : t < 1000) (ha : a < 4) : ∃ h', (∀ R, qMC (d + 2) 17 [.ref 19, .ref r, .int (iN t), .int (iN a)] h R ↔ R = (none, h')) ∧ ChX [20] [(19, 1), (19, 2)] 0 h h' ∧ HtX h' D (addP l (prj D (if 0 < a then co p 0 else co p 1, if 1 < a then co p 1 else co p 2, if 2 < a then co p 2 else co p 3, 0))) := by
  obtain ⟨m, kr, tm, sv⟩ := sp
  have ib : ∀ k, k < 4 → iB (co p k) := fun k hk => sm_iB (sv k hk).2
  have b00 : iB 0 := by unfold iB; omega
  have ri : ∀ k, k < 4 → qiald h r (iN (t + k)) = some (iZ (co p k)) := fun k hk => by rw [rdI kr (by omega), (sv k hk).1]
  have b0 : qiald h r (iN t) = some (iZ (co p 0)) := ri 0 (by decide)
  have b1 := ri 1 (by decide)
  have b2 := ri 2 (by decide)
  have b3 := ri 3 (by decide)
  obtain ⟨y0, e0⟩ : ∃ y0, y0 = if 0 < a then co p 0 else co p 1 := ⟨_, rfl⟩
  obtain ⟨y1, e1⟩ : ∃ y1, y1 = if 1 < a then co p 1 else co p 2 := ⟨_, rfl⟩
  obtain ⟨y2, e2⟩ : ∃ y2, y2 = if 2 < a then co p 2 else co p 3 := ⟨_, rfl⟩
  rw [← e0, ← e1, ← e2]
  have hq : ptB (y0, y1, y2, 0) := fun k hk => by
    match k, hk with
    | 0, _ => show iB y0; rw [e0]; split; exact ib 0 (by decide); exact ib 1 (by decide)
    | 1, _ => show iB y1; rw [e1]; split; exact ib 1 (by decide); exact ib 2 (by decide)
    | 2, _ => show iB y2; rw [e2]; split; exact ib 2 (by decide); exact ib 3 (by decide)
    | 3, _ => exact b00
  obtain ⟨h', r', c', v'⟩ := x_tell (d := d) (q := (y0, y1, y2, 0)) s hD v hq
  have r2 : ∀ R, qMC (d + 1) 14 [.ref 19, .int (iZ y0), .int (iZ y1), .int (iZ y2), .int (iN 0)] h R ↔ R = (none, h') := r'
  refine ⟨h', fun R => ?_, c', v'⟩
  rcases (show a = 0 ∨ a = 1 ∨ a = 2 ∨ a = 3 by omega) with rfl | rfl | rfl | rfl
  · rw [if_neg (by decide)] at e0 e1 e2
    rw [e0, e1, e2] at r2
    simp (disch := first | assumption | omega) only [e17_0, e17_1, e17_2, e17_5, e17_6, e17_9, e17_10, e17_11, e17_12, e17_13, e17_15, e17_16, e17_17, e17_18, e17_21, e17_22, e17_23, e17_24, e17_27, e17_28, e17_29, e17_30, e17_31, e17_33, e17_34, e17_35, e17_36, e17_39, e17_40, e17_41, e17_42, e17_45, e17_46, e17_47, e17_48, e17_49, e17_51, e17_52, e17_54, e17_56, e17_58, e17_59, e17_62, m17, ↓reduceIte, qg_0, qg_1, qg_2, qg_3, qg_4, qg_5, qg_6, qg_7, qg_8, qg_9, qg_10, qg_11, qg_12, qg_13, not_true_eq_false, not_false_eq_true, Nat.reduceBEq, Bool.false_eq_true, ex1, ex3, ex4, exF, qfit_i, qfit_l, qfit_r, qfit_n, qfit_b0, qfit_b1, qcat_i, qcat_r, qcat_n, qcat_l, qroom_0, qroom_c, List.map_cons, List.map_nil, List.sum_cons, List.sum_nil, Nat.reduceAdd, Nat.reduceMul, Nat.reduceLT, Nat.reduceLeDiff, Nat.reduceEqDiff, Nat.reduceSub, decide_true, true_and, and_true, and_self, if_true, if_false, Option.toList_some, Option.toList_none, List.cons_append, List.nil_append, qsL, qlong, List.length_cons, List.length_nil, iN_L, exI, iN_add, iN_mul, iN_le, iN_lt, iN_eq, Nat.le_refl, qfN0, qfN1, uX_16, vX_16, uX_19, vX_19, uX_27, vX_27, uX_30, vX_30, uX_39, vX_39, uX_41, vX_41, uX_43, vX_43, uX_46, vX_46, uX_50, vX_50, uX_53, vX_53, b0, b1, b2, b3, r2]
  · rw [if_pos (by decide)] at e0
    rw [if_neg (by decide)] at e1 e2
    rw [e0, e1, e2] at r2
    simp (disch := first | assumption | omega) only [e17_0, e17_1, e17_2, e17_5, e17_6, e17_9, e17_10, e17_11, e17_12, e17_13, e17_15, e17_16, e17_17, e17_18, e17_21, e17_22, e17_23, e17_24, e17_27, e17_28, e17_29, e17_30, e17_31, e17_33, e17_34, e17_35, e17_36, e17_39, e17_40, e17_41, e17_42, e17_45, e17_46, e17_47, e17_48, e17_49, e17_51, e17_52, e17_54, e17_56, e17_58, e17_59, e17_62, m17, ↓reduceIte, qg_0, qg_1, qg_2, qg_3, qg_4, qg_5, qg_6, qg_7, qg_8, qg_9, qg_10, qg_11, qg_12, qg_13, not_true_eq_false, not_false_eq_true, Nat.reduceBEq, Bool.false_eq_true, ex1, ex3, ex4, exF, qfit_i, qfit_l, qfit_r, qfit_n, qfit_b0, qfit_b1, qcat_i, qcat_r, qcat_n, qcat_l, qroom_0, qroom_c, List.map_cons, List.map_nil, List.sum_cons, List.sum_nil, Nat.reduceAdd, Nat.reduceMul, Nat.reduceLT, Nat.reduceLeDiff, Nat.reduceEqDiff, Nat.reduceSub, decide_true, true_and, and_true, and_self, if_true, if_false, Option.toList_some, Option.toList_none, List.cons_append, List.nil_append, qsL, qlong, List.length_cons, List.length_nil, iN_L, exI, iN_add, iN_mul, iN_le, iN_lt, iN_eq, Nat.le_refl, qfN0, qfN1, uX_16, vX_16, uX_19, vX_19, uX_27, vX_27, uX_30, vX_30, uX_39, vX_39, uX_41, vX_41, uX_43, vX_43, uX_46, vX_46, uX_50, vX_50, uX_53, vX_53, b0, b1, b2, b3, r2]
  · rw [if_pos (by decide)] at e0 e1
    rw [if_neg (by decide)] at e2
    rw [e0, e1, e2] at r2
    simp (disch := first | assumption | omega) only [e17_0, e17_1, e17_2, e17_5, e17_6, e17_9, e17_10, e17_11, e17_12, e17_13, e17_15, e17_16, e17_17, e17_18, e17_21, e17_22, e17_23, e17_24, e17_27, e17_28, e17_29, e17_30, e17_31, e17_33, e17_34, e17_35, e17_36, e17_39, e17_40, e17_41, e17_42, e17_45, e17_46, e17_47, e17_48, e17_49, e17_51, e17_52, e17_54, e17_56, e17_58, e17_59, e17_62, m17, ↓reduceIte, qg_0, qg_1, qg_2, qg_3, qg_4, qg_5, qg_6, qg_7, qg_8, qg_9, qg_10, qg_11, qg_12, qg_13, not_true_eq_false, not_false_eq_true, Nat.reduceBEq, Bool.false_eq_true, ex1, ex3, ex4, exF, qfit_i, qfit_l, qfit_r, qfit_n, qfit_b0, qfit_b1, qcat_i, qcat_r, qcat_n, qcat_l, qroom_0, qroom_c, List.map_cons, List.map_nil, List.sum_cons, List.sum_nil, Nat.reduceAdd, Nat.reduceMul, Nat.reduceLT, Nat.reduceLeDiff, Nat.reduceEqDiff, Nat.reduceSub, decide_true, true_and, and_true, and_self, if_true, if_false, Option.toList_some, Option.toList_none, List.cons_append, List.nil_append, qsL, qlong, List.length_cons, List.length_nil, iN_L, exI, iN_add, iN_mul, iN_le, iN_lt, iN_eq, Nat.le_refl, qfN0, qfN1, uX_16, vX_16, uX_19, vX_19, uX_27, vX_27, uX_30, vX_30, uX_39, vX_39, uX_41, vX_41, uX_43, vX_43, uX_46, vX_46, uX_50, vX_50, uX_53, vX_53, b0, b1, b2, b3, r2]
  · rw [if_pos (by decide)] at e0 e1 e2
    rw [e0, e1, e2] at r2
    simp (disch := first | assumption | omega) only [e17_0, e17_1, e17_2, e17_5, e17_6, e17_9, e17_10, e17_11, e17_12, e17_13, e17_15, e17_16, e17_17, e17_18, e17_21, e17_22, e17_23, e17_24, e17_27, e17_28, e17_29, e17_30, e17_31, e17_33, e17_34, e17_35, e17_36, e17_39, e17_40, e17_41, e17_42, e17_45, e17_46, e17_47, e17_48, e17_49, e17_51, e17_52, e17_54, e17_56, e17_58, e17_59, e17_62, m17, ↓reduceIte, qg_0, qg_1, qg_2, qg_3, qg_4, qg_5, qg_6, qg_7, qg_8, qg_9, qg_10, qg_11, qg_12, qg_13, not_true_eq_false, not_false_eq_true, Nat.reduceBEq, Bool.false_eq_true, ex1, ex3, ex4, exF, qfit_i, qfit_l, qfit_r, qfit_n, qfit_b0, qfit_b1, qcat_i, qcat_r, qcat_n, qcat_l, qroom_0, qroom_c, List.map_cons, List.map_nil, List.sum_cons, List.sum_nil, Nat.reduceAdd, Nat.reduceMul, Nat.reduceLT, Nat.reduceLeDiff, Nat.reduceEqDiff, Nat.reduceSub, decide_true, true_and, and_true, and_self, if_true, if_false, Option.toList_some, Option.toList_none, List.cons_append, List.nil_append, qsL, qlong, List.length_cons, List.length_nil, iN_L, exI, iN_add, iN_mul, iN_le, iN_lt, iN_eq, Nat.le_refl, qfN0, qfN1, uX_16, vX_16, uX_19, vX_19, uX_27, vX_27, uX_30, vX_30, uX_39, vX_39, uX_41, vX_41, uX_43, vX_43, uX_46, vX_46, uX_50, vX_50, uX_53, vX_53, b0, b1, b2, b3, r2]
end XSHAPE

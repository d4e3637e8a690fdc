/-! ===== THE CLASS: places on a line ===== -/
section XLINE
variable {d : Nat} {h : qH} {R : qRes}
def sZ (sp : Nat → Int) (k : Nat) (x : Int) : Nat → Int := fun k' => if k' = k then x else sp k'
def lnB (Q : Nat → Nat → Int) (t z : Nat) (p : Nat → Int) (j : Nat) : Bool := decide (Q j 0 * p 0 + Q j 1 * p 1 + Q j 2 * p 2 + Q j 3 * p 3 - Q j 4 * (t : Int) ≤ -(z : Int))
def rmZ (Q : Nat → Nat → Int) (t z : Nat) (p : Nat → Int) (j : Nat) : Int := Q j 4 * (t : Int) - (z : Int) - Q j 0 * p 0 - Q j 1 * p 1 - Q j 2 * p 2 - Q j 3 * p 3
theorem sZ_at {sp : Nat → Int} {k : Nat} {x : Int} : sZ sp k x k = x := if_pos rfl
theorem sZ_ne {sp : Nat → Int} {k k' : Nat} {x : Int} (h : k' ≠ k) : sZ sp k x k' = sp k' := if_neg h
theorem ln_rm {Q : Nat → Nat → Int} {t z k j : Nat} {sp : Nat → Int} {x : Int} (hk : k < 4) : lnB Q t z (sZ sp k x) j = true ↔ Q j k * x ≤ rmZ Q t z (sZ sp k 0) j := by
  unfold lnB rmZ
  rw [decide_eq_true_eq]
  rcases (by omega : k = 0 ∨ k = 1 ∨ k = 2 ∨ k = 3) with rfl | rfl | rfl | rfl
  · rw [sZ_at, sZ_at, sZ_ne (by decide), sZ_ne (by decide), sZ_ne (by decide), sZ_ne (by decide), sZ_ne (by decide), sZ_ne (by decide), Int.mul_zero]; omega
  · rw [sZ_at, sZ_at, sZ_ne (by decide), sZ_ne (by decide), sZ_ne (by decide), sZ_ne (by decide), sZ_ne (by decide), sZ_ne (by decide), Int.mul_zero]; omega
  · rw [sZ_at, sZ_at, sZ_ne (by decide), sZ_ne (by decide), sZ_ne (by decide), sZ_ne (by decide), sZ_ne (by decide), sZ_ne (by decide), Int.mul_zero]; omega
  · rw [sZ_at, sZ_at, sZ_ne (by decide), sZ_ne (by decide), sZ_ne (by decide), sZ_ne (by decide), sZ_ne (by decide), sZ_ne (by decide), Int.mul_zero]; omega
theorem dv_b {r q : Int} (hr : -10000000000000000 ≤ r ∧ r ≤ 10000000000000000) (hq : 0 < q) : -10000000000000000 ≤ r / q ∧ r / q ≤ 10000000000000000 := by
  constructor
  · rw [Int.le_ediv_iff_mul_le hq]; omega
  · have : r / q < 10000000000000001 := by rw [Int.ediv_lt_iff_lt_mul hq]; omega
    omega
def bgZ (x : Int) : Prop := -10000000000000000 ≤ x ∧ x ≤ 10000000000000000
theorem bgZ.l {x : Int} (b : bgZ x) : lB x := by obtain ⟨h1, h2⟩ := b; unfold lB; omega
set_option maxRecDepth 100000 in
set_option maxHeartbeats 64000000 in
theorem x_line {a t z k w D : Nat} {sc : Int32} {cs : List pt4} {C : Nat → List Nat} {p q e : Nat} {B : Nat → Nat} {l : List pt4} {fs : List Nat} {Q : Nat → Nat → Int} {lo : Nat → Int} {W : Nat → Nat} {sp : Nat → Int} (s : ShX h) (v : LtX h a t z lo W) (S : SoD h a D sc cs C p q w e B) (P : SoP D cs C) (V : SoQ h w l D fs Q) (hm : fs.length ≤ 208) (hk : k < 4) (hs : ∀ k', k' < 4 → k' ≠ k → hi h 49 k' = iZ (sp k') ∧ -12000 ≤ sp k' ∧ sp k' ≤ 12000) : qMC (d + 2) 48 [.ref 46, .int (iN k)] h R ↔ R = (some (.int (iN (cntN (fun e => allN (fun j => lnB Q t z (sZ sp k (lo k + (e : Int))) j) fs.length) (W k)))), sI h 49 (upd (hi h 49) k (iN 0))) := by
  obtain ⟨N, eN⟩ : ∃ N, N = cntN (fun e => allN (fun j => lnB Q t z (sZ sp k (lo k + (e : Int))) j) fs.length) (W k) := ⟨_, rfl⟩
  have NW : N ≤ W k := by rw [eN]; exact cntN_le
  obtain ⟨g, eg⟩ : ∃ g, g = sI h 49 (upd (hi h 49) k (iN 0)) := ⟨_, rfl⟩
  have w1 : qiast h 49 (iN k) (iN 0) = some g := by rw [eg]; exact wX_49 s hk
  have cg : ChX [49] [] 0 h g := by rw [eg]; exact ChX.rowI s (kX_49 s) (by decide) (by decide)
  have sg := cg.sh
  have vg := v.ch cg s (by decide) (by decide) (by intro z; cases z) (by intro z; cases z) (by intro z; cases z)
  have ks := kpS.of cg (by decide)
  have Sg := S.kp ks P
  obtain ⟨⟨w97, kw⟩, V2⟩ := V.kp ks
  obtain ⟨⟨u16, ult, uF⟩, -, -, -, -, -, g5, -⟩ := Sg.obj
  have ln : qalen g w = some (iN (5 * fs.length)) := lnL kw
  obtain ⟨⟨v0, v1, v2⟩, v3, v4, ht, hz⟩ := id vg
  obtain ⟨lo1, hi1⟩ := v3 k hk
  obtain ⟨lb, Wb, Wb2⟩ := v4 k hk
  have f0 : qget g 46 3 0 = some (.ref a) := by rw [gX_46_0 sg, v0]
  obtain ⟨y, ey⟩ : ∃ y, y = sZ sp k 0 := ⟨_, rfl⟩
  have yv : ∀ k', k' < 4 → qiald g 49 (iN k') = some (iZ (y k')) ∧ (-12000 ≤ y k' ∧ y k' ≤ 12000) := fun k' hk' => by
    rw [rX_49 sg hk', eg, hi_sI, if_pos rfl, upd_at, ey]
    by_cases q : k' = k
    · rw [if_pos q, q, sZ_at]; exact ⟨rfl, by decide⟩
    · rw [if_neg q, sZ_ne q]
      obtain ⟨h1, h2⟩ := hs k' hk' q
      exact ⟨by rw [h1], h2⟩
  have ll : ∀ k', k' < 4 → (iZ (y k')).toInt64 = lZ (y k') := fun k' hk' => iZ_long (by have := (yv k' hk').2; unfold iB; omega)
  have lt' : (iN t).toInt64 = lZ (t : Int) := by rw [← iZ_nat]; exact iZ_long (by unfold iB; omega)
  have lz' : (iN z).toInt64 = lZ (z : Int) := by rw [← iZ_nat]; exact iZ_long (by unfold iB; omega)
  have a0 := (yv 0 (by decide)).1
  have a1 := (yv 1 (by decide)).1
  have a2 := (yv 2 (by decide)).1
  have a3 := (yv 3 (by decide)).1
  have l0 := ll 0 (by decide)
  have l1 := ll 1 (by decide)
  have l2 := ll 2 (by decide)
  have l3 := ll 3 (by decide)
  have fin : ∀ (f la : Int) (n7 : Nat) (x8 x9 x10 x11 : Option Value), bgZ f → bgZ la → (∀ x, (lo k ≤ x ∧ x < lo k + (W k : Int) ∧ allN (fun j => lnB Q t z (sZ sp k x) j) fs.length = true) ↔ (f ≤ x ∧ x ≤ la)) → (qEv (d + 1) 0 qk_48 208 [some (.ref 46), some (.int (iN k)), some (.long (lZ f)), none, some (.long (lZ la)), none, some (.ref w), some (.int (iN n7)), x8, x9, x10, x11] [] g R ↔ R = (some (.int (iN N)), g)) := by
    intro f la n7 x8 x9 x10 x11 bf bl hh
    have cn := cnt_line (P := fun x => allN (fun j => lnB Q t z (sZ sp k x) j) fs.length) hh
    rw [← eN] at cn
    have c1 := lZ_lt bl.l bf.l
    have c2 := lZ_le bf.l bl.l
    rw [e48_208]
    by_cases z0 : f ≤ la
    · rw [if_pos z0] at cn
      have e1 : (lZ la - lZ f + lZ 1).toInt32 = iN N := by rw [lZ_sub, lZ_add, lZ_i, ← iZ_nat, cn]
      simp (disch := first | assumption | omega) only [e48_0, e48_1, e48_4, e48_5, e48_6, e48_7, e48_8, e48_9, e48_12, e48_13, e48_14, e48_15, e48_17, e48_18, e48_21, e48_22, e48_23, e48_24, e48_25, e48_28, e48_31, e48_33, e48_34, e48_38, e48_39, e48_40, e48_42, e48_43, e48_46, e48_47, e48_49, e48_50, e48_53, e48_55, e48_57, e48_58, e48_59, e48_60, e48_61, e48_64, e48_65, e48_66, e48_67, e48_70, e48_71, e48_72, e48_74, e48_76, e48_77, e48_78, e48_81, e48_82, e48_83, e48_84, e48_85, e48_86, e48_88, e48_90, e48_91, e48_92, e48_93, e48_94, e48_97, e48_98, e48_99, e48_100, e48_101, e48_102, e48_104, e48_106, e48_107, e48_108, e48_109, e48_110, e48_113, e48_114, e48_115, e48_116, e48_117, e48_118, e48_120, e48_122, e48_123, e48_124, e48_125, e48_126, e48_129, e48_130, e48_131, e48_132, e48_133, e48_134, e48_136, e48_138, e48_140, e48_141, e48_142, e48_143, e48_145, e48_147, e48_148, e48_149, e48_152, e48_154, e48_156, e48_158, e48_161, e48_164, e48_166, e48_169, e48_171, e48_172, e48_173, e48_176, e48_177, e48_179, e48_181, e48_182, e48_185, e48_186, e48_189, e48_190, e48_193, e48_195, e48_196, e48_197, e48_200, e48_201, e48_202, e48_205, e48_209, e48_211, e48_212, e48_215, e48_217, e48_218, e48_219, e48_220, e48_221, e48_222, e48_225, e48_226, m48, ↓reduceIte, qg_0, qg_1, qg_2, qg_3, qg_4, qg_5, qg_6, qg_7, qg_8, qg_9, qg_10, qg_11, qg_12, qg_13, not_true_eq_false, not_false_eq_true, Nat.reduceBEq, Bool.false_eq_true, ex1, ex3, ex4, exF, qfit_i, qfit_l, qfit_r, qfit_n, qfit_b0, qfit_b1, qcat_i, qcat_r, qcat_n, qcat_l, qroom_0, qroom_c, List.map_cons, List.map_nil, List.sum_cons, List.sum_nil, Nat.reduceAdd, Nat.reduceMul, Nat.reduceLT, Nat.reduceLeDiff, Nat.reduceEqDiff, Nat.reduceSub, decide_true, true_and, and_true, and_self, if_true, if_false, Option.toList_some, Option.toList_none, List.cons_append, List.nil_append, qsL, qlong, List.length_cons, List.length_nil, iN_L, exI, iN_add, iN_mul, iN_le, iN_lt, iN_eq, Nat.le_refl, qfN0, qfN1, uX_16, vX_16, uX_19, vX_19, uX_27, vX_27, uX_30, vX_30, uX_39, vX_39, uX_41, vX_41, uX_43, vX_43, uX_46, vX_46, uX_50, vX_50, uX_53, vX_53, lgN_gt, lgN_le, lgN_lt, c1, c2, z0, show ¬ la < f by omega, show (1 : Int64) = lZ 1 from rfl, e1]
    · rw [if_neg z0] at cn
      have : N = 0 := by omega
      rw [this]
      simp (disch := first | assumption | omega) only [e48_0, e48_1, e48_4, e48_5, e48_6, e48_7, e48_8, e48_9, e48_12, e48_13, e48_14, e48_15, e48_17, e48_18, e48_21, e48_22, e48_23, e48_24, e48_25, e48_28, e48_31, e48_33, e48_34, e48_38, e48_39, e48_40, e48_42, e48_43, e48_46, e48_47, e48_49, e48_50, e48_53, e48_55, e48_57, e48_58, e48_59, e48_60, e48_61, e48_64, e48_65, e48_66, e48_67, e48_70, e48_71, e48_72, e48_74, e48_76, e48_77, e48_78, e48_81, e48_82, e48_83, e48_84, e48_85, e48_86, e48_88, e48_90, e48_91, e48_92, e48_93, e48_94, e48_97, e48_98, e48_99, e48_100, e48_101, e48_102, e48_104, e48_106, e48_107, e48_108, e48_109, e48_110, e48_113, e48_114, e48_115, e48_116, e48_117, e48_118, e48_120, e48_122, e48_123, e48_124, e48_125, e48_126, e48_129, e48_130, e48_131, e48_132, e48_133, e48_134, e48_136, e48_138, e48_140, e48_141, e48_142, e48_143, e48_145, e48_147, e48_148, e48_149, e48_152, e48_154, e48_156, e48_158, e48_161, e48_164, e48_166, e48_169, e48_171, e48_172, e48_173, e48_176, e48_177, e48_179, e48_181, e48_182, e48_185, e48_186, e48_189, e48_190, e48_193, e48_195, e48_196, e48_197, e48_200, e48_201, e48_202, e48_205, e48_209, e48_211, e48_212, e48_215, e48_217, e48_218, e48_219, e48_220, e48_221, e48_222, e48_225, e48_226, m48, ↓reduceIte, qg_0, qg_1, qg_2, qg_3, qg_4, qg_5, qg_6, qg_7, qg_8, qg_9, qg_10, qg_11, qg_12, qg_13, not_true_eq_false, not_false_eq_true, Nat.reduceBEq, Bool.false_eq_true, ex1, ex3, ex4, exF, qfit_i, qfit_l, qfit_r, qfit_n, qfit_b0, qfit_b1, qcat_i, qcat_r, qcat_n, qcat_l, qroom_0, qroom_c, List.map_cons, List.map_nil, List.sum_cons, List.sum_nil, Nat.reduceAdd, Nat.reduceMul, Nat.reduceLT, Nat.reduceLeDiff, Nat.reduceEqDiff, Nat.reduceSub, decide_true, true_and, and_true, and_self, if_true, if_false, Option.toList_some, Option.toList_none, List.cons_append, List.nil_append, qsL, qlong, List.length_cons, List.length_nil, iN_L, exI, iN_add, iN_mul, iN_le, iN_lt, iN_eq, Nat.le_refl, qfN0, qfN1, uX_16, vX_16, uX_19, vX_19, uX_27, vX_27, uX_30, vX_30, uX_39, vX_39, uX_41, vX_41, uX_43, vX_43, uX_46, vX_46, uX_50, vX_50, uX_53, vX_53, lgN_gt, lgN_le, lgN_lt, c1, c2, z0, show la < f by omega]
  have loop : ∀ (w' j : Nat) (f la : Int) (x8 x9 x10 x11 : Option Value), j + w' = fs.length → bgZ f → bgZ la → (∀ x, (lo k ≤ x ∧ x < lo k + (W k : Int) ∧ allN (fun j => lnB Q t z (sZ sp k x) j) j = true) ↔ (f ≤ x ∧ x ≤ la)) → (qEv (d + 1) 0 qk_48 36 [some (.ref 46), some (.int (iN k)), some (.long (lZ f)), none, some (.long (lZ la)), none, some (.ref w), some (.int (iN (j * 5))), x8, x9, x10, x11] [] g R ↔ R = (some (.int (iN N)), g)) := by
    intro w'
    induction w' with
    | zero =>
      intro j f la x8 x9 x10 x11 hj bf bl hh
      have ej : j = fs.length := by omega
      subst ej
      rw [← fin f la (fs.length * 5) x8 x9 x10 x11 bf bl hh, e48_36]
      simp (disch := first | assumption | omega) only [e48_0, e48_1, e48_4, e48_5, e48_6, e48_7, e48_8, e48_9, e48_12, e48_13, e48_14, e48_15, e48_17, e48_18, e48_21, e48_22, e48_23, e48_24, e48_25, e48_28, e48_31, e48_33, e48_34, e48_38, e48_39, e48_40, e48_42, e48_43, e48_46, e48_47, e48_49, e48_50, e48_53, e48_55, e48_57, e48_58, e48_59, e48_60, e48_61, e48_64, e48_65, e48_66, e48_67, e48_70, e48_71, e48_72, e48_74, e48_76, e48_77, e48_78, e48_81, e48_82, e48_83, e48_84, e48_85, e48_86, e48_88, e48_90, e48_91, e48_92, e48_93, e48_94, e48_97, e48_98, e48_99, e48_100, e48_101, e48_102, e48_104, e48_106, e48_107, e48_108, e48_109, e48_110, e48_113, e48_114, e48_115, e48_116, e48_117, e48_118, e48_120, e48_122, e48_123, e48_124, e48_125, e48_126, e48_129, e48_130, e48_131, e48_132, e48_133, e48_134, e48_136, e48_138, e48_140, e48_141, e48_142, e48_143, e48_145, e48_147, e48_148, e48_149, e48_152, e48_154, e48_156, e48_158, e48_161, e48_164, e48_166, e48_169, e48_171, e48_172, e48_173, e48_176, e48_177, e48_179, e48_181, e48_182, e48_185, e48_186, e48_189, e48_190, e48_193, e48_195, e48_196, e48_197, e48_200, e48_201, e48_202, e48_205, e48_209, e48_211, e48_212, e48_215, e48_217, e48_218, e48_219, e48_220, e48_221, e48_222, e48_225, e48_226, m48, ↓reduceIte, qg_0, qg_1, qg_2, qg_3, qg_4, qg_5, qg_6, qg_7, qg_8, qg_9, qg_10, qg_11, qg_12, qg_13, not_true_eq_false, not_false_eq_true, Nat.reduceBEq, Bool.false_eq_true, ex1, ex3, ex4, exF, qfit_i, qfit_l, qfit_r, qfit_n, qfit_b0, qfit_b1, qcat_i, qcat_r, qcat_n, qcat_l, qroom_0, qroom_c, List.map_cons, List.map_nil, List.sum_cons, List.sum_nil, Nat.reduceAdd, Nat.reduceMul, Nat.reduceLT, Nat.reduceLeDiff, Nat.reduceEqDiff, Nat.reduceSub, decide_true, true_and, and_true, and_self, if_true, if_false, Option.toList_some, Option.toList_none, List.cons_append, List.nil_append, qsL, qlong, List.length_cons, List.length_nil, iN_L, exI, iN_add, iN_mul, iN_le, iN_lt, iN_eq, Nat.le_refl, qfN0, qfN1, uX_16, vX_16, uX_19, vX_19, uX_27, vX_27, uX_30, vX_30, uX_39, vX_39, uX_41, vX_41, uX_43, vX_43, uX_46, vX_46, uX_50, vX_50, uX_53, vX_53, ln, show 5 * fs.length < fs.length * 5 + 5 by omega]
    | succ w' ih =>
      intro j f la x8 x9 x10 x11 hj bf bl hh
      have hjm : j < fs.length := by omega
      have c1 := lZ_lt bl.l bf.l
      have c2 := lZ_le bf.l bl.l
      by_cases z0 : la < f
      · rw [← fin f la (j * 5) x8 x9 x10 x11 bf bl (fun x => ⟨fun y => absurd ((hh x).mp ⟨y.1, y.2.1, allN_iff.mpr fun i hi' => allN_iff.mp y.2.2 i (by omega)⟩) (by omega), fun y => by omega⟩), e48_36]
        simp (disch := first | assumption | omega) only [e48_0, e48_1, e48_4, e48_5, e48_6, e48_7, e48_8, e48_9, e48_12, e48_13, e48_14, e48_15, e48_17, e48_18, e48_21, e48_22, e48_23, e48_24, e48_25, e48_28, e48_31, e48_33, e48_34, e48_38, e48_39, e48_40, e48_42, e48_43, e48_46, e48_47, e48_49, e48_50, e48_53, e48_55, e48_57, e48_58, e48_59, e48_60, e48_61, e48_64, e48_65, e48_66, e48_67, e48_70, e48_71, e48_72, e48_74, e48_76, e48_77, e48_78, e48_81, e48_82, e48_83, e48_84, e48_85, e48_86, e48_88, e48_90, e48_91, e48_92, e48_93, e48_94, e48_97, e48_98, e48_99, e48_100, e48_101, e48_102, e48_104, e48_106, e48_107, e48_108, e48_109, e48_110, e48_113, e48_114, e48_115, e48_116, e48_117, e48_118, e48_120, e48_122, e48_123, e48_124, e48_125, e48_126, e48_129, e48_130, e48_131, e48_132, e48_133, e48_134, e48_136, e48_138, e48_140, e48_141, e48_142, e48_143, e48_145, e48_147, e48_148, e48_149, e48_152, e48_154, e48_156, e48_158, e48_161, e48_164, e48_166, e48_169, e48_171, e48_172, e48_173, e48_176, e48_177, e48_179, e48_181, e48_182, e48_185, e48_186, e48_189, e48_190, e48_193, e48_195, e48_196, e48_197, e48_200, e48_201, e48_202, e48_205, e48_209, e48_211, e48_212, e48_215, e48_217, e48_218, e48_219, e48_220, e48_221, e48_222, e48_225, e48_226, m48, ↓reduceIte, qg_0, qg_1, qg_2, qg_3, qg_4, qg_5, qg_6, qg_7, qg_8, qg_9, qg_10, qg_11, qg_12, qg_13, not_true_eq_false, not_false_eq_true, Nat.reduceBEq, Bool.false_eq_true, ex1, ex3, ex4, exF, qfit_i, qfit_l, qfit_r, qfit_n, qfit_b0, qfit_b1, qcat_i, qcat_r, qcat_n, qcat_l, qroom_0, qroom_c, List.map_cons, List.map_nil, List.sum_cons, List.sum_nil, Nat.reduceAdd, Nat.reduceMul, Nat.reduceLT, Nat.reduceLeDiff, Nat.reduceEqDiff, Nat.reduceSub, decide_true, true_and, and_true, and_self, if_true, if_false, Option.toList_some, Option.toList_none, List.cons_append, List.nil_append, qsL, qlong, List.length_cons, List.length_nil, iN_L, exI, iN_add, iN_mul, iN_le, iN_lt, iN_eq, Nat.le_refl, qfN0, qfN1, uX_16, vX_16, uX_19, vX_19, uX_27, vX_27, uX_30, vX_30, uX_39, vX_39, uX_41, vX_41, uX_43, vX_43, uX_46, vX_46, uX_50, vX_50, uX_53, vX_53, ln, show ¬ 5 * fs.length < j * 5 + 5 by omega, lgN_gt, lgN_le, c1, c2, z0]
      · obtain ⟨⟨-, pb⟩, qv⟩ := V2 j hjm
        have rl : ∀ k', k' < 5 → qlald g w (iN (j * 5 + k')) = some (lZ (Q j k')) := fun k' hk' => by rw [rdL kw (by omega), qv k' hk']
        have q0 : qlald g w (iN (j * 5)) = some (lZ (Q j 0)) := rl 0 (by decide)
        have q1 := rl 1 (by decide)
        have q2 := rl 2 (by decide)
        have q3 := rl 3 (by decide)
        have q4 := rl 4 (by decide)
        have qk := rl k (by omega)
        obtain ⟨r, er⟩ : ∃ r, r = Q j 4 * (t : Int) - (z : Int) - Q j 0 * y 0 - Q j 1 * y 1 - Q j 2 * y 2 - Q j 3 * y 3 := ⟨_, rfl⟩
        have rb : bgZ r := by
          have m0 := mul_b (A := 100000000000) (B := 12000) (pb.1 0 (by decide)) (yv 0 (by decide)).2
          have m1 := mul_b (A := 100000000000) (B := 12000) (pb.1 1 (by decide)) (yv 1 (by decide)).2
          have m2 := mul_b (A := 100000000000) (B := 12000) (pb.1 2 (by decide)) (yv 2 (by decide)).2
          have m3 := mul_b (A := 100000000000) (B := 12000) (pb.1 3 (by decide)) (yv 3 (by decide)).2
          have m4 := mul_b (A := 400000000000000) (B := 4) pb.2.1 (show -4 ≤ (t : Int) ∧ (t : Int) ≤ 4 by omega)
          rw [er]; unfold bgZ; omega
        have qb : lB (Q j k) := by have := pb.1 k hk; unfold lB; omega
        have rm : ∀ x, lnB Q t z (sZ sp k x) j = true ↔ Q j k * x ≤ r := fun x => by
          rw [ln_rm hk, ← ey, er]; rfl
        have nx : ∀ x, allN (fun j => lnB Q t z (sZ sp k x) j) (j + 1) = true ↔ allN (fun j => lnB Q t z (sZ sp k x) j) j = true ∧ Q j k * x ≤ r := fun x => by
          rw [allN, Bool.and_eq_true, rm]
        have s1 := lZ_le qb lB_0
        have s2 := lZ_le lB_0 qb
        have s3 := lZ_lt lB_0 qb
        have s4 := lZ_lt qb lB_0
        have t1 := lZ_le lB_0 rb.l
        have t2 := lZ_lt rb.l lB_0
        rcases Int.lt_trichotomy (Q j k) 0 with qs | qs | qs
        · -- slope below 0
          have nb : lB (-Q j k) := by obtain ⟨h1, h2⟩ := qb; exact ⟨by omega, by omega⟩
          have db := dv_b rb (show 0 < -Q j k by omega)
          have fd : ∀ R, qMC (d + 1) 309 [.long (lZ r), .long (lZ (-Q j k))] g R ↔ R = (some (.long (lZ (r / (-Q j k)))), g) := fun R => x_floorDiv rb.l nb (by omega)
          have nbz : bgZ (-(r / (-Q j k))) := ⟨by omega, by omega⟩
          have mx : ∀ R, qMC (d + 1) 313 [.long (lZ f), .long (lZ (-(r / (-Q j k))))] g R ↔ R = (some (.long (lZ (if f < -(r / (-Q j k)) then -(r / (-Q j k)) else f))), g) := fun R => x_maxL bf.l nbz.l
          have eqv : ∀ x, Q j k * x ≤ r ↔ -(r / (-Q j k)) ≤ x := fun x => by
            have h1 := Int.le_ediv_iff_mul_le (a := -x) (b := r) (c := -Q j k) (by omega)
            rw [Int.neg_mul_neg, Int.mul_comm x] at h1
            rw [← h1]; omega
          rw [← ih (j + 1) (if f < -(r / (-Q j k)) then -(r / (-Q j k)) else f) la (some (.long (lZ r))) none (some (.long (lZ (Q j k)))) none (by omega) (by split <;> assumption) bl (fun x => by
            rw [nx, eqv]
            have := hh x
            constructor
            · rintro ⟨h1, h2, h3, h4⟩
              have := this.mp ⟨h1, h2, h3⟩
              split <;> omega
            · intro y
              have hf : f ≤ x ∧ -(r / (-Q j k)) ≤ x := by split at y <;> omega
              obtain ⟨h1, h2, h3⟩ := this.mpr ⟨hf.1, y.2⟩
              exact ⟨h1, h2, h3, hf.2⟩), e48_36]
          simp (disch := first | assumption | omega) only [e48_0, e48_1, e48_4, e48_5, e48_6, e48_7, e48_8, e48_9, e48_12, e48_13, e48_14, e48_15, e48_17, e48_18, e48_21, e48_22, e48_23, e48_24, e48_25, e48_28, e48_31, e48_33, e48_34, e48_38, e48_39, e48_40, e48_42, e48_43, e48_46, e48_47, e48_49, e48_50, e48_53, e48_55, e48_57, e48_58, e48_59, e48_60, e48_61, e48_64, e48_65, e48_66, e48_67, e48_70, e48_71, e48_72, e48_74, e48_76, e48_77, e48_78, e48_81, e48_82, e48_83, e48_84, e48_85, e48_86, e48_88, e48_90, e48_91, e48_92, e48_93, e48_94, e48_97, e48_98, e48_99, e48_100, e48_101, e48_102, e48_104, e48_106, e48_107, e48_108, e48_109, e48_110, e48_113, e48_114, e48_115, e48_116, e48_117, e48_118, e48_120, e48_122, e48_123, e48_124, e48_125, e48_126, e48_129, e48_130, e48_131, e48_132, e48_133, e48_134, e48_136, e48_138, e48_140, e48_141, e48_142, e48_143, e48_145, e48_147, e48_148, e48_149, e48_152, e48_154, e48_156, e48_158, e48_161, e48_164, e48_166, e48_169, e48_171, e48_172, e48_173, e48_176, e48_177, e48_179, e48_181, e48_182, e48_185, e48_186, e48_189, e48_190, e48_193, e48_195, e48_196, e48_197, e48_200, e48_201, e48_202, e48_205, e48_209, e48_211, e48_212, e48_215, e48_217, e48_218, e48_219, e48_220, e48_221, e48_222, e48_225, e48_226, m48, ↓reduceIte, qg_0, qg_1, qg_2, qg_3, qg_4, qg_5, qg_6, qg_7, qg_8, qg_9, qg_10, qg_11, qg_12, qg_13, not_true_eq_false, not_false_eq_true, Nat.reduceBEq, Bool.false_eq_true, ex1, ex3, ex4, exF, qfit_i, qfit_l, qfit_r, qfit_n, qfit_b0, qfit_b1, qcat_i, qcat_r, qcat_n, qcat_l, qroom_0, qroom_c, List.map_cons, List.map_nil, List.sum_cons, List.sum_nil, Nat.reduceAdd, Nat.reduceMul, Nat.reduceLT, Nat.reduceLeDiff, Nat.reduceEqDiff, Nat.reduceSub, decide_true, true_and, and_true, and_self, if_true, if_false, Option.toList_some, Option.toList_none, List.cons_append, List.nil_append, qsL, qlong, List.length_cons, List.length_nil, iN_L, exI, iN_add, iN_mul, iN_le, iN_lt, iN_eq, Nat.le_refl, qfN0, qfN1, uX_16, vX_16, uX_19, vX_19, uX_27, vX_27, uX_30, vX_30, uX_39, vX_39, uX_41, vX_41, uX_43, vX_43, uX_46, vX_46, uX_50, vX_50, uX_53, vX_53, ln, show ¬ 5 * fs.length < j * 5 + 5 by omega, lgN_gt, lgN_le, lgN_lt, lgN_ge, c1, c2, z0, q0, q1, q2, q3, q4, qk, gX_46_1, gX_46_2, gX_46_5, v1, v2, lt', lz', a0, a1, a2, a3, l0, l1, l2, l3, lZ_mul, lZ_sub, ← er, show (0 : Int64) = lZ 0 from rfl, s1, s2, s3, s4, show Q j k ≤ 0 by omega, show ¬ 0 ≤ Q j k by omega, lZ_neg, fd, mx, Nat.add_mul, Nat.one_mul]
        · -- slope 0
          have eqv : ∀ x, Q j k * x ≤ r ↔ 0 ≤ r := fun x => by rw [qs, Int.zero_mul]
          by_cases r0 : r < 0
          · have : N = 0 := by
              rw [eN]
              refine cntN_0 fun e _ y => ?_
              have := (rm _).mp (allN_iff.mp y j hjm)
              rw [eqv] at this; omega
            rw [this, e48_36]
            simp (disch := first | assumption | omega) only [e48_0, e48_1, e48_4, e48_5, e48_6, e48_7, e48_8, e48_9, e48_12, e48_13, e48_14, e48_15, e48_17, e48_18, e48_21, e48_22, e48_23, e48_24, e48_25, e48_28, e48_31, e48_33, e48_34, e48_38, e48_39, e48_40, e48_42, e48_43, e48_46, e48_47, e48_49, e48_50, e48_53, e48_55, e48_57, e48_58, e48_59, e48_60, e48_61, e48_64, e48_65, e48_66, e48_67, e48_70, e48_71, e48_72, e48_74, e48_76, e48_77, e48_78, e48_81, e48_82, e48_83, e48_84, e48_85, e48_86, e48_88, e48_90, e48_91, e48_92, e48_93, e48_94, e48_97, e48_98, e48_99, e48_100, e48_101, e48_102, e48_104, e48_106, e48_107, e48_108, e48_109, e48_110, e48_113, e48_114, e48_115, e48_116, e48_117, e48_118, e48_120, e48_122, e48_123, e48_124, e48_125, e48_126, e48_129, e48_130, e48_131, e48_132, e48_133, e48_134, e48_136, e48_138, e48_140, e48_141, e48_142, e48_143, e48_145, e48_147, e48_148, e48_149, e48_152, e48_154, e48_156, e48_158, e48_161, e48_164, e48_166, e48_169, e48_171, e48_172, e48_173, e48_176, e48_177, e48_179, e48_181, e48_182, e48_185, e48_186, e48_189, e48_190, e48_193, e48_195, e48_196, e48_197, e48_200, e48_201, e48_202, e48_205, e48_209, e48_211, e48_212, e48_215, e48_217, e48_218, e48_219, e48_220, e48_221, e48_222, e48_225, e48_226, m48, ↓reduceIte, qg_0, qg_1, qg_2, qg_3, qg_4, qg_5, qg_6, qg_7, qg_8, qg_9, qg_10, qg_11, qg_12, qg_13, not_true_eq_false, not_false_eq_true, Nat.reduceBEq, Bool.false_eq_true, ex1, ex3, ex4, exF, qfit_i, qfit_l, qfit_r, qfit_n, qfit_b0, qfit_b1, qcat_i, qcat_r, qcat_n, qcat_l, qroom_0, qroom_c, List.map_cons, List.map_nil, List.sum_cons, List.sum_nil, Nat.reduceAdd, Nat.reduceMul, Nat.reduceLT, Nat.reduceLeDiff, Nat.reduceEqDiff, Nat.reduceSub, decide_true, true_and, and_true, and_self, if_true, if_false, Option.toList_some, Option.toList_none, List.cons_append, List.nil_append, qsL, qlong, List.length_cons, List.length_nil, iN_L, exI, iN_add, iN_mul, iN_le, iN_lt, iN_eq, Nat.le_refl, qfN0, qfN1, uX_16, vX_16, uX_19, vX_19, uX_27, vX_27, uX_30, vX_30, uX_39, vX_39, uX_41, vX_41, uX_43, vX_43, uX_46, vX_46, uX_50, vX_50, uX_53, vX_53, ln, show ¬ 5 * fs.length < j * 5 + 5 by omega, lgN_gt, lgN_le, lgN_lt, lgN_ge, c1, c2, z0, q0, q1, q2, q3, q4, qk, gX_46_1, gX_46_2, gX_46_5, v1, v2, lt', lz', a0, a1, a2, a3, l0, l1, l2, l3, lZ_mul, lZ_sub, ← er, show (0 : Int64) = lZ 0 from rfl, s1, s2, s3, s4, show Q j k ≤ 0 by omega, show 0 ≤ Q j k by omega, t1, t2, show ¬ 0 ≤ r by omega]
          · rw [← ih (j + 1) f la (some (.long (lZ r))) none (some (.long (lZ (Q j k)))) none (by omega) bf bl (fun x => by
              rw [nx, eqv, ← hh x]
              exact ⟨fun y => ⟨y.1, y.2.1, y.2.2.1⟩, fun y => ⟨y.1, y.2.1, y.2.2, by omega⟩⟩), e48_36]
            simp (disch := first | assumption | omega) only [e48_0, e48_1, e48_4, e48_5, e48_6, e48_7, e48_8, e48_9, e48_12, e48_13, e48_14, e48_15, e48_17, e48_18, e48_21, e48_22, e48_23, e48_24, e48_25, e48_28, e48_31, e48_33, e48_34, e48_38, e48_39, e48_40, e48_42, e48_43, e48_46, e48_47, e48_49, e48_50, e48_53, e48_55, e48_57, e48_58, e48_59, e48_60, e48_61, e48_64, e48_65, e48_66, e48_67, e48_70, e48_71, e48_72, e48_74, e48_76, e48_77, e48_78, e48_81, e48_82, e48_83, e48_84, e48_85, e48_86, e48_88, e48_90, e48_91, e48_92, e48_93, e48_94, e48_97, e48_98, e48_99, e48_100, e48_101, e48_102, e48_104, e48_106, e48_107, e48_108, e48_109, e48_110, e48_113, e48_114, e48_115, e48_116, e48_117, e48_118, e48_120, e48_122, e48_123, e48_124, e48_125, e48_126, e48_129, e48_130, e48_131, e48_132, e48_133, e48_134, e48_136, e48_138, e48_140, e48_141, e48_142, e48_143, e48_145, e48_147, e48_148, e48_149, e48_152, e48_154, e48_156, e48_158, e48_161, e48_164, e48_166, e48_169, e48_171, e48_172, e48_173, e48_176, e48_177, e48_179, e48_181, e48_182, e48_185, e48_186, e48_189, e48_190, e48_193, e48_195, e48_196, e48_197, e48_200, e48_201, e48_202, e48_205, e48_209, e48_211, e48_212, e48_215, e48_217, e48_218, e48_219, e48_220, e48_221, e48_222, e48_225, e48_226, m48, ↓reduceIte, qg_0, qg_1, qg_2, qg_3, qg_4, qg_5, qg_6, qg_7, qg_8, qg_9, qg_10, qg_11, qg_12, qg_13, not_true_eq_false, not_false_eq_true, Nat.reduceBEq, Bool.false_eq_true, ex1, ex3, ex4, exF, qfit_i, qfit_l, qfit_r, qfit_n, qfit_b0, qfit_b1, qcat_i, qcat_r, qcat_n, qcat_l, qroom_0, qroom_c, List.map_cons, List.map_nil, List.sum_cons, List.sum_nil, Nat.reduceAdd, Nat.reduceMul, Nat.reduceLT, Nat.reduceLeDiff, Nat.reduceEqDiff, Nat.reduceSub, decide_true, true_and, and_true, and_self, if_true, if_false, Option.toList_some, Option.toList_none, List.cons_append, List.nil_append, qsL, qlong, List.length_cons, List.length_nil, iN_L, exI, iN_add, iN_mul, iN_le, iN_lt, iN_eq, Nat.le_refl, qfN0, qfN1, uX_16, vX_16, uX_19, vX_19, uX_27, vX_27, uX_30, vX_30, uX_39, vX_39, uX_41, vX_41, uX_43, vX_43, uX_46, vX_46, uX_50, vX_50, uX_53, vX_53, ln, show ¬ 5 * fs.length < j * 5 + 5 by omega, lgN_gt, lgN_le, lgN_lt, lgN_ge, c1, c2, z0, q0, q1, q2, q3, q4, qk, gX_46_1, gX_46_2, gX_46_5, v1, v2, lt', lz', a0, a1, a2, a3, l0, l1, l2, l3, lZ_mul, lZ_sub, ← er, show (0 : Int64) = lZ 0 from rfl, s1, s2, s3, s4, show Q j k ≤ 0 by omega, show 0 ≤ Q j k by omega, t1, t2, show 0 ≤ r by omega, Nat.add_mul, Nat.one_mul]
        · -- slope above 0
          have db := dv_b rb qs
          have db' : bgZ (r / Q j k) := db
          have fd : ∀ R, qMC (d + 1) 309 [.long (lZ r), .long (lZ (Q j k))] g R ↔ R = (some (.long (lZ (r / Q j k))), g) := fun R => x_floorDiv rb.l qb qs
          have mn : ∀ R, qMC (d + 1) 315 [.long (lZ la), .long (lZ (r / Q j k))] g R ↔ R = (some (.long (lZ (if r / Q j k < la then r / Q j k else la))), g) := fun R => x_minL bl.l (show bgZ _ from db).l
          have eqv : ∀ x, Q j k * x ≤ r ↔ x ≤ r / Q j k := fun x => by
            rw [Int.le_ediv_iff_mul_le qs, Int.mul_comm]
          rw [← ih (j + 1) f (if r / Q j k < la then r / Q j k else la) (some (.long (lZ r))) none (some (.long (lZ (Q j k)))) none (by omega) bf (by split <;> assumption) (fun x => by
            rw [nx, eqv]
            have := hh x
            constructor
            · rintro ⟨h1, h2, h3, h4⟩
              have := this.mp ⟨h1, h2, h3⟩
              split <;> omega
            · intro y
              have hf : x ≤ la ∧ x ≤ r / Q j k := by split at y <;> omega
              obtain ⟨h1, h2, h3⟩ := this.mpr ⟨y.1, hf.1⟩
              exact ⟨h1, h2, h3, hf.2⟩), e48_36]
          simp (disch := first | assumption | omega) only [e48_0, e48_1, e48_4, e48_5, e48_6, e48_7, e48_8, e48_9, e48_12, e48_13, e48_14, e48_15, e48_17, e48_18, e48_21, e48_22, e48_23, e48_24, e48_25, e48_28, e48_31, e48_33, e48_34, e48_38, e48_39, e48_40, e48_42, e48_43, e48_46, e48_47, e48_49, e48_50, e48_53, e48_55, e48_57, e48_58, e48_59, e48_60, e48_61, e48_64, e48_65, e48_66, e48_67, e48_70, e48_71, e48_72, e48_74, e48_76, e48_77, e48_78, e48_81, e48_82, e48_83, e48_84, e48_85, e48_86, e48_88, e48_90, e48_91, e48_92, e48_93, e48_94, e48_97, e48_98, e48_99, e48_100, e48_101, e48_102, e48_104, e48_106, e48_107, e48_108, e48_109, e48_110, e48_113, e48_114, e48_115, e48_116, e48_117, e48_118, e48_120, e48_122, e48_123, e48_124, e48_125, e48_126, e48_129, e48_130, e48_131, e48_132, e48_133, e48_134, e48_136, e48_138, e48_140, e48_141, e48_142, e48_143, e48_145, e48_147, e48_148, e48_149, e48_152, e48_154, e48_156, e48_158, e48_161, e48_164, e48_166, e48_169, e48_171, e48_172, e48_173, e48_176, e48_177, e48_179, e48_181, e48_182, e48_185, e48_186, e48_189, e48_190, e48_193, e48_195, e48_196, e48_197, e48_200, e48_201, e48_202, e48_205, e48_209, e48_211, e48_212, e48_215, e48_217, e48_218, e48_219, e48_220, e48_221, e48_222, e48_225, e48_226, m48, ↓reduceIte, qg_0, qg_1, qg_2, qg_3, qg_4, qg_5, qg_6, qg_7, qg_8, qg_9, qg_10, qg_11, qg_12, qg_13, not_true_eq_false, not_false_eq_true, Nat.reduceBEq, Bool.false_eq_true, ex1, ex3, ex4, exF, qfit_i, qfit_l, qfit_r, qfit_n, qfit_b0, qfit_b1, qcat_i, qcat_r, qcat_n, qcat_l, qroom_0, qroom_c, List.map_cons, List.map_nil, List.sum_cons, List.sum_nil, Nat.reduceAdd, Nat.reduceMul, Nat.reduceLT, Nat.reduceLeDiff, Nat.reduceEqDiff, Nat.reduceSub, decide_true, true_and, and_true, and_self, if_true, if_false, Option.toList_some, Option.toList_none, List.cons_append, List.nil_append, qsL, qlong, List.length_cons, List.length_nil, iN_L, exI, iN_add, iN_mul, iN_le, iN_lt, iN_eq, Nat.le_refl, qfN0, qfN1, uX_16, vX_16, uX_19, vX_19, uX_27, vX_27, uX_30, vX_30, uX_39, vX_39, uX_41, vX_41, uX_43, vX_43, uX_46, vX_46, uX_50, vX_50, uX_53, vX_53, ln, show ¬ 5 * fs.length < j * 5 + 5 by omega, lgN_gt, lgN_le, lgN_lt, lgN_ge, c1, c2, z0, q0, q1, q2, q3, q4, qk, gX_46_1, gX_46_2, gX_46_5, v1, v2, lt', lz', a0, a1, a2, a3, l0, l1, l2, l3, lZ_mul, lZ_sub, ← er, show (0 : Int64) = lZ 0 from rfl, s1, s2, s3, s4, show ¬ Q j k ≤ 0 by omega, fd, mn, Nat.add_mul, Nat.one_mul]
  obtain ⟨u1, u2⟩ := v.2.1 k hk
  have e1 : (iZ (lo k)).toInt64 = lZ (lo k) := iZ_long (by unfold iB; omega)
  have e2 : (iZ (lo k + (W k : Int) - 1)).toInt64 = lZ (lo k + (W k : Int) - 1) := iZ_long (by unfold iB; omega)
  rw [← eN, ← eg, ← loop fs.length 0 (lo k) (lo k + (W k : Int) - 1) none none none none (by omega) (by unfold bgZ; omega) (by unfold bgZ; omega) (fun x => ⟨fun y => by omega, fun y => ⟨y.1, by omega, rfl⟩⟩), show 0 * 5 = 0 from rfl]
  simp (disch := first | assumption | omega) only [e48_0, e48_1, e48_4, e48_5, e48_6, e48_7, e48_8, e48_9, e48_12, e48_13, e48_14, e48_15, e48_17, e48_18, e48_21, e48_22, e48_23, e48_24, e48_25, e48_28, e48_31, e48_33, e48_34, e48_38, e48_39, e48_40, e48_42, e48_43, e48_46, e48_47, e48_49, e48_50, e48_53, e48_55, e48_57, e48_58, e48_59, e48_60, e48_61, e48_64, e48_65, e48_66, e48_67, e48_70, e48_71, e48_72, e48_74, e48_76, e48_77, e48_78, e48_81, e48_82, e48_83, e48_84, e48_85, e48_86, e48_88, e48_90, e48_91, e48_92, e48_93, e48_94, e48_97, e48_98, e48_99, e48_100, e48_101, e48_102, e48_104, e48_106, e48_107, e48_108, e48_109, e48_110, e48_113, e48_114, e48_115, e48_116, e48_117, e48_118, e48_120, e48_122, e48_123, e48_124, e48_125, e48_126, e48_129, e48_130, e48_131, e48_132, e48_133, e48_134, e48_136, e48_138, e48_140, e48_141, e48_142, e48_143, e48_145, e48_147, e48_148, e48_149, e48_152, e48_154, e48_156, e48_158, e48_161, e48_164, e48_166, e48_169, e48_171, e48_172, e48_173, e48_176, e48_177, e48_179, e48_181, e48_182, e48_185, e48_186, e48_189, e48_190, e48_193, e48_195, e48_196, e48_197, e48_200, e48_201, e48_202, e48_205, e48_209, e48_211, e48_212, e48_215, e48_217, e48_218, e48_219, e48_220, e48_221, e48_222, e48_225, e48_226, m48, ↓reduceIte, qg_0, qg_1, qg_2, qg_3, qg_4, qg_5, qg_6, qg_7, qg_8, qg_9, qg_10, qg_11, qg_12, qg_13, not_true_eq_false, not_false_eq_true, Nat.reduceBEq, Bool.false_eq_true, ex1, ex3, ex4, exF, qfit_i, qfit_l, qfit_r, qfit_n, qfit_b0, qfit_b1, qcat_i, qcat_r, qcat_n, qcat_l, qroom_0, qroom_c, List.map_cons, List.map_nil, List.sum_cons, List.sum_nil, Nat.reduceAdd, Nat.reduceMul, Nat.reduceLT, Nat.reduceLeDiff, Nat.reduceEqDiff, Nat.reduceSub, decide_true, true_and, and_true, and_self, if_true, if_false, Option.toList_some, Option.toList_none, List.cons_append, List.nil_append, qsL, qlong, List.length_cons, List.length_nil, iN_L, exI, iN_add, iN_mul, iN_le, iN_lt, iN_eq, Nat.le_refl, qfN0, qfN1, uX_16, vX_16, uX_19, vX_19, uX_27, vX_27, uX_30, vX_30, uX_39, vX_39, uX_41, vX_41, uX_43, vX_43, uX_46, vX_46, uX_50, vX_50, uX_53, vX_53, gX_46_3, gX_46_4, gX_46_5, rX_47, rX_48, u1, u2, e1, e2, w1, f0, u16, ult, uF, g5]
end XLINE

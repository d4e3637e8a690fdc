/-! ===== THE REFERENCE: makeWhole, the scale ===== -/
section SCALE
variable {d : Nat} {h : qH} {ps : List frac} {w : Nat}
/-- what a coordinate of a part must be multiplied by -/
def dnm (ps : List frac) (p k : Nat) : Nat := (fL ps p).natAbs / Nat.gcd (fU ps p k).natAbs (fL ps p).natAbs
/-- the least common multiple of the first j -/
def lcF (ps : List frac) (w : Nat) : Nat → Nat
  | 0 => 1
  | j + 1 => if j % 4 = w then lcF ps w j else Nat.lcm (lcF ps w j) (dnm ps (j / 4) (j % 4))
/-- the same, no farther once it is large -/
def cpF (ps : List frac) (w : Nat) : Nat → Nat
  | 0 => 1
  | j + 1 => if j % 4 = w ∨ 2000000000 ≤ cpF ps w j then cpF ps w j else Nat.lcm (cpF ps w j) (dnm ps (j / 4) (j % 4))
def frB (ps : List frac) : Prop := ∀ p, p < ps.length → 1 ≤ fL ps p ∧ fL ps p ≤ 100000
theorem dnm_pos (hb : frB ps) {p k : Nat} (hp : p < ps.length) : 0 < dnm ps p k ∧ dnm ps p k ≤ 100000 := by
  have h1 := hb p hp
  have h2 : 0 < (fL ps p).natAbs := by omega
  have h3 : Nat.gcd (fU ps p k).natAbs (fL ps p).natAbs ∣ (fL ps p).natAbs := Nat.gcd_dvd_right _ _
  have h4 : 0 < Nat.gcd (fU ps p k).natAbs (fL ps p).natAbs := Nat.gcd_pos_of_pos_right _ h2
  refine ⟨Nat.div_pos (Nat.le_of_dvd h2 h3) h4, Nat.le_trans (Nat.div_le_self _ _) (by omega)⟩
theorem cpF_lc (hb : frB ps) : ∀ j, j ≤ 4 * ps.length → (cpF ps w j < 2000000000 → cpF ps w j = lcF ps w j) ∧ (2000000000 ≤ cpF ps w j → 2000000000 ≤ lcF ps w j) ∧ 0 < cpF ps w j ∧ cpF ps w j ≤ 200000000000000 ∧ 0 < lcF ps w j
  | 0, _ => ⟨fun _ => rfl, fun h => absurd (show 2000000000 ≤ 1 from h) (by decide), Nat.one_pos, show 1 ≤ 200000000000000 by decide, Nat.one_pos⟩
  | j + 1, hj => by
    obtain ⟨h1, h2, h3, h4, h5⟩ := cpF_lc hb j (by omega)
    have hd := dnm_pos hb (k := j % 4) (show j / 4 < ps.length by omega)
    rw [cpF, lcF]
    have l5 : 0 < Nat.lcm (lcF ps w j) (dnm ps (j / 4) (j % 4)) := Nat.lcm_pos h5 hd.1
    by_cases hw : j % 4 = w
    · rw [if_pos hw, if_pos (Or.inl hw)]; exact ⟨h1, h2, h3, h4, h5⟩
    · rw [if_neg hw]
      by_cases hc : 2000000000 ≤ cpF ps w j
      · rw [if_pos (Or.inr hc)]
        refine ⟨fun z => by omega, fun _ => ?_, h3, h4, l5⟩
        exact Nat.le_trans (h2 hc) (Nat.le_of_dvd l5 (Nat.dvd_lcm_left _ _))
      · rw [if_neg (fun z => z.elim hw hc), ← h1 (by omega)]
        have hl : Nat.lcm (cpF ps w j) (dnm ps (j / 4) (j % 4)) ≤ cpF ps w j * dnm ps (j / 4) (j % 4) := Nat.le_of_dvd (Nat.mul_pos h3 hd.1) (Nat.lcm_dvd (Nat.dvd_mul_right _ _) (Nat.dvd_mul_left _ _))
        have hm : cpF ps w j * dnm ps (j / 4) (j % 4) ≤ 2000000000 * 100000 := Nat.mul_le_mul (by omega) hd.2
        rw [← h1 (by omega)] at l5
        exact ⟨fun _ => rfl, fun z => z, l5, by omega, l5⟩
theorem lcm_div {a b : Nat} : a / Nat.gcd a b * b = Nat.lcm a b := by
  unfold Nat.lcm
  rw [Nat.mul_comm a b, Nat.mul_div_assoc b (Nat.gcd_dvd_left a b), Nat.mul_comm]
theorem lZ_divN {a b : Nat} (ha : lB a) (hb : lB b) : lZ a / lZ b = lZ ((a / b : Nat) : Int) := by rw [lZ_div ha hb, ← Int.ofNat_tdiv]
theorem lZ_0N {a : Nat} (ha : lB a) (h0 : 0 < a) : ¬ lZ (a : Int) = lZ 0 := by rw [lZ_eq ha lB_0]; omega
theorem FrV.b (v : FrV h ps) : frB ps := fun p hp => (v.2.2 p hp).2.2
theorem FrV.lo (v : FrV h ps) {p : Nat} (hp : p < ps.length) : hl h 72 p = lZ ((fL ps p).natAbs : Int) := by
  rw [(v.2.2 p hp).2.1]
  have := (v.2.2 p hp).2.2
  rw [show ((fL ps p).natAbs : Int) = fL ps p by omega]
set_option maxRecDepth 100000 in
set_option maxHeartbeats 16000000 in
theorem mw_in {p : Nat} (s : ShM h) (v : FrV h ps) (hp : p < ps.length) (hw : w ≤ 4) {x6 x7 : Option Value} (q7 : qlong x6 = true → x7 = none) : ∃ y5 y6 y7, (qlong y6 = true → y7 = none) ∧ ∀ R, qEv (d + 6) 0 qk_219 39 [some (.ref 55), some (.int (iN w)), some (.long (lZ (cpF ps w (4 * p)))), none, some (.int (iN p)), some (.int (iN 0)), x6, x7, none, none, none] [] h R ↔ qEv (d + 6) 0 qk_219 27 [some (.ref 55), some (.int (iN w)), some (.long (lZ (cpF ps w (4 * (p + 1))))), none, some (.int (iN (p + 1))), y5, y6, y7, none, none, none] [] h R := by
  have l255 := v.1
  obtain ⟨L2, h2, ⟨y6, y7, e2, rfl, z7⟩, r⟩ := loop_inv (d := d + 6) (rt := 0) (K := qk_219) (pc := 39) (P := fun k L h' => ∃ x6 x7, L = [some (.ref 55), some (.int (iN w)), some (.long (lZ (cpF ps w (4 * p + k)))), none, some (.int (iN p)), some (.int (iN k)), x6, x7, none, none, none] ∧ h' = h ∧ (qlong x6 = true → x7 = none)) (n := 4) (fun k L h' hk hP => by
    obtain ⟨x6, x7, rfl, rfl, q7⟩ := hP
    have em : (4 * p + k) % 4 = k := by omega
    have ed : (4 * p + k) / 4 = p := by omega
    have ec : cpF ps w (4 * p + (k + 1)) = if k = w ∨ 2000000000 ≤ cpF ps w (4 * p + k) then cpF ps w (4 * p + k) else Nat.lcm (cpF ps w (4 * p + k)) (dnm ps p k) := by
      rw [show 4 * p + (k + 1) = (4 * p + k) + 1 from rfl, cpF]
      simp only [em, ed]
    obtain ⟨-, -, c3, c4, -⟩ := cpF_lc (w := w) v.b (4 * p + k) (by omega)
    have bc : lB (cpF ps w (4 * p + k)) := by unfold lB; omega
    have b2 : lB 2000000000 := by unfold lB; omega
    by_cases hkw : k = w
    · refine ⟨_, h', ⟨x6, x7, rfl, rfl, q7⟩, fun R => ?_⟩
      rw [ec, if_pos (Or.inl hkw), e219_39]
      subst hkw
      simp (disch := first | assumption | omega) only [e219_0, e219_1, e219_4, e219_6, e219_9, e219_10, e219_13, e219_15, e219_18, e219_21, e219_22, e219_23, e219_24, e219_25, e219_27, e219_29, e219_30, e219_33, e219_36, e219_37, e219_41, e219_42, e219_45, e219_47, e219_48, e219_51, e219_52, e219_55, e219_56, e219_59, e219_60, e219_63, e219_65, e219_66, e219_67, e219_70, e219_71, e219_73, e219_74, e219_76, e219_77, e219_78, e219_79, e219_82, e219_84, e219_85, e219_88, e219_89, e219_91, e219_92, e219_93, e219_95, e219_98, e219_99, e219_101, e219_102, e219_103, e219_106, e219_109, e219_112, e219_115, e219_116, e219_119, e219_120, e219_123, e219_126, e219_127, e219_128, e219_130, e219_132, e219_133, e219_136, e219_139, e219_140, e219_142, e219_143, e219_145, e219_147, e219_148, e219_151, e219_153, e219_154, e219_157, e219_158, e219_161, e219_162, e219_164, e219_165, e219_167, e219_168, e219_169, e219_170, e219_173, e219_175, e219_176, e219_179, e219_181, e219_182, e219_185, e219_186, e219_188, e219_189, e219_191, e219_192, e219_193, e219_195, e219_196, e219_197, e219_198, e219_201, e219_203, e219_204, e219_206, e219_207, e219_208, e219_209, e219_211, e219_213, e219_216, e219_219, e219_220, e219_223, e219_226, e219_227, e219_228, e219_231, e219_233, e219_235, e219_236, e219_237, e219_240, e219_243, e219_246, e219_247, e219_250, e219_251, e219_252, e219_253, e219_256, e219_257, e219_260, e219_261, e219_264, e219_265, e219_266, e219_267, e219_268, e219_269, e219_272, e219_273, e219_274, e219_275, e219_278, e219_279, e219_280, e219_281, e219_284, e219_285, e219_286, e219_287, e219_290, e219_291, e219_292, e219_295, e219_298, e219_301, e219_302, e219_305, e219_308, e219_309, e219_310, e219_311, e219_314, e219_317, e219_320, m219, ↓reduceIte, qg_0, qg_1, qg_2, qg_3, qg_4, qg_5, qg_6, qg_7, qg_8, qg_9, qg_10, qg_11, qg_12, qg_13, not_true_eq_false, not_false_eq_true, Nat.reduceBEq, Bool.false_eq_true, ex1, ex3, ex4, exF, qfit_i, qfit_l, qfit_r, qfit_n, qfit_b0, qfit_b1, qcat_i, qcat_r, qcat_n, qcat_l, qroom_0, qroom_c, List.map_cons, List.map_nil, List.sum_cons, List.sum_nil, Nat.reduceAdd, Nat.reduceMul, Nat.reduceLT, Nat.reduceLeDiff, Nat.reduceEqDiff, Nat.reduceSub, decide_true, true_and, and_true, and_self, if_true, if_false, Option.toList_some, Option.toList_none, List.cons_append, List.nil_append, qsL, qlong, List.length_cons, List.length_nil, iN_L, vM1, vM2, exI, iN_add, iN_mul, iN_le, iN_lt, iN_eq, Nat.le_refl, qfN0, qfN1, show ¬ 4 ≤ k by omega]
    · by_cases hc : 2000000000 ≤ cpF ps w (4 * p + k)
      · refine ⟨_, h', ⟨x6, x7, rfl, rfl, q7⟩, fun R => ?_⟩
        have hge : lZ 2000000000 ≤ lZ (cpF ps w (4 * p + k)) := by rw [lZ_le b2 bc]; omega
        rw [ec, if_pos (Or.inr hc), e219_39]
        simp (disch := first | assumption | omega) only [e219_0, e219_1, e219_4, e219_6, e219_9, e219_10, e219_13, e219_15, e219_18, e219_21, e219_22, e219_23, e219_24, e219_25, e219_27, e219_29, e219_30, e219_33, e219_36, e219_37, e219_41, e219_42, e219_45, e219_47, e219_48, e219_51, e219_52, e219_55, e219_56, e219_59, e219_60, e219_63, e219_65, e219_66, e219_67, e219_70, e219_71, e219_73, e219_74, e219_76, e219_77, e219_78, e219_79, e219_82, e219_84, e219_85, e219_88, e219_89, e219_91, e219_92, e219_93, e219_95, e219_98, e219_99, e219_101, e219_102, e219_103, e219_106, e219_109, e219_112, e219_115, e219_116, e219_119, e219_120, e219_123, e219_126, e219_127, e219_128, e219_130, e219_132, e219_133, e219_136, e219_139, e219_140, e219_142, e219_143, e219_145, e219_147, e219_148, e219_151, e219_153, e219_154, e219_157, e219_158, e219_161, e219_162, e219_164, e219_165, e219_167, e219_168, e219_169, e219_170, e219_173, e219_175, e219_176, e219_179, e219_181, e219_182, e219_185, e219_186, e219_188, e219_189, e219_191, e219_192, e219_193, e219_195, e219_196, e219_197, e219_198, e219_201, e219_203, e219_204, e219_206, e219_207, e219_208, e219_209, e219_211, e219_213, e219_216, e219_219, e219_220, e219_223, e219_226, e219_227, e219_228, e219_231, e219_233, e219_235, e219_236, e219_237, e219_240, e219_243, e219_246, e219_247, e219_250, e219_251, e219_252, e219_253, e219_256, e219_257, e219_260, e219_261, e219_264, e219_265, e219_266, e219_267, e219_268, e219_269, e219_272, e219_273, e219_274, e219_275, e219_278, e219_279, e219_280, e219_281, e219_284, e219_285, e219_286, e219_287, e219_290, e219_291, e219_292, e219_295, e219_298, e219_301, e219_302, e219_305, e219_308, e219_309, e219_310, e219_311, e219_314, e219_317, e219_320, m219, ↓reduceIte, qg_0, qg_1, qg_2, qg_3, qg_4, qg_5, qg_6, qg_7, qg_8, qg_9, qg_10, qg_11, qg_12, qg_13, not_true_eq_false, not_false_eq_true, Nat.reduceBEq, Bool.false_eq_true, ex1, ex3, ex4, exF, qfit_i, qfit_l, qfit_r, qfit_n, qfit_b0, qfit_b1, qcat_i, qcat_r, qcat_n, qcat_l, qroom_0, qroom_c, List.map_cons, List.map_nil, List.sum_cons, List.sum_nil, Nat.reduceAdd, Nat.reduceMul, Nat.reduceLT, Nat.reduceLeDiff, Nat.reduceEqDiff, Nat.reduceSub, decide_true, true_and, and_true, and_self, if_true, if_false, Option.toList_some, Option.toList_none, List.cons_append, List.nil_append, qsL, qlong, List.length_cons, List.length_nil, iN_L, vM1, vM2, exI, iN_add, iN_mul, iN_le, iN_lt, iN_eq, Nat.le_refl, qfN0, qfN1, show ¬ 4 ≤ k by omega, hkw, lgN_ge, show (2000000000 : Int64) = lZ 2000000000 from rfl, hge]
      · obtain ⟨u1, u2, u3⟩ := v.2.2 p hp
        obtain ⟨uk, ub⟩ := u1 k hk
        have lo := v.lo hp
        have hd := dnm_pos v.b (k := k) hp
        have bL : lB ((fL ps p).natAbs : Int) := by unfold lB; omega
        have bU : lB (fU ps p k) := by unfold lB; omega
        have gle : Nat.gcd (fU ps p k).natAbs (fL ps p).natAbs ≤ (fL ps p).natAbs := Nat.gcd_le_right _ (by omega)
        have gp : 0 < Nat.gcd (fU ps p k).natAbs (fL ps p).natAbs := Nat.gcd_pos_of_pos_right _ (by omega)
        have bg : lB (Nat.gcd (fU ps p k).natAbs (fL ps p).natAbs : Nat) := by unfold lB; omega
        have bd : lB (dnm ps p k : Nat) := by unfold lB; omega
        have gle2 : Nat.gcd (cpF ps w (4 * p + k)) (dnm ps p k) ≤ dnm ps p k := Nat.gcd_le_right _ hd.1
        have gp2 : 0 < Nat.gcd (cpF ps w (4 * p + k)) (dnm ps p k) := Nat.gcd_pos_of_pos_right _ hd.1
        have bg2 : lB (Nat.gcd (cpF ps w (4 * p + k)) (dnm ps p k) : Nat) := by unfold lB; omega
        have nge : ¬ lZ 2000000000 ≤ lZ (cpF ps w (4 * p + k)) := by rw [lZ_le b2 bc]; omega
        have hg1 := fun R => s_gcd (d := d + 4) (R := R) (h := h') bU bL
        rw [show ((fL ps p).natAbs : Int).natAbs = (fL ps p).natAbs from rfl] at hg1
        have hg2 := fun R => s_gcd (d := d + 4) (R := R) (h := h') bc bd
        rw [show ((cpF ps w (4 * p + k) : Nat) : Int).natAbs = cpF ps w (4 * p + k) from rfl, show ((dnm ps p k : Nat) : Int).natAbs = dnm ps p k from rfl] at hg2
        have q1 : lZ ((fL ps p).natAbs : Int) / lZ (Nat.gcd (fU ps p k).natAbs (fL ps p).natAbs : Nat) = lZ (dnm ps p k : Nat) := lZ_divN bL bg
        have q2 : lZ (cpF ps w (4 * p + k) : Nat) / lZ (Nat.gcd (cpF ps w (4 * p + k)) (dnm ps p k) : Nat) = lZ ((cpF ps w (4 * p + k) / Nat.gcd (cpF ps w (4 * p + k)) (dnm ps p k) : Nat) : Int) := lZ_divN bc bg2
        have q3 : lZ ((cpF ps w (4 * p + k) / Nat.gcd (cpF ps w (4 * p + k)) (dnm ps p k) : Nat) : Int) * lZ (dnm ps p k : Nat) = lZ (Nat.lcm (cpF ps w (4 * p + k)) (dnm ps p k) : Nat) := by rw [lZ_mul, ← Int.natCast_mul, lcm_div]
        refine ⟨_, h', ⟨some (.long (lZ (dnm ps p k : Nat))), none, rfl, rfl, fun _ => rfl⟩, fun R => ?_⟩
        rw [ec, if_neg (fun z => z.elim hkw hc), e219_39]
        simp (disch := first | assumption | omega) only [e219_0, e219_1, e219_4, e219_6, e219_9, e219_10, e219_13, e219_15, e219_18, e219_21, e219_22, e219_23, e219_24, e219_25, e219_27, e219_29, e219_30, e219_33, e219_36, e219_37, e219_41, e219_42, e219_45, e219_47, e219_48, e219_51, e219_52, e219_55, e219_56, e219_59, e219_60, e219_63, e219_65, e219_66, e219_67, e219_70, e219_71, e219_73, e219_74, e219_76, e219_77, e219_78, e219_79, e219_82, e219_84, e219_85, e219_88, e219_89, e219_91, e219_92, e219_93, e219_95, e219_98, e219_99, e219_101, e219_102, e219_103, e219_106, e219_109, e219_112, e219_115, e219_116, e219_119, e219_120, e219_123, e219_126, e219_127, e219_128, e219_130, e219_132, e219_133, e219_136, e219_139, e219_140, e219_142, e219_143, e219_145, e219_147, e219_148, e219_151, e219_153, e219_154, e219_157, e219_158, e219_161, e219_162, e219_164, e219_165, e219_167, e219_168, e219_169, e219_170, e219_173, e219_175, e219_176, e219_179, e219_181, e219_182, e219_185, e219_186, e219_188, e219_189, e219_191, e219_192, e219_193, e219_195, e219_196, e219_197, e219_198, e219_201, e219_203, e219_204, e219_206, e219_207, e219_208, e219_209, e219_211, e219_213, e219_216, e219_219, e219_220, e219_223, e219_226, e219_227, e219_228, e219_231, e219_233, e219_235, e219_236, e219_237, e219_240, e219_243, e219_246, e219_247, e219_250, e219_251, e219_252, e219_253, e219_256, e219_257, e219_260, e219_261, e219_264, e219_265, e219_266, e219_267, e219_268, e219_269, e219_272, e219_273, e219_274, e219_275, e219_278, e219_279, e219_280, e219_281, e219_284, e219_285, e219_286, e219_287, e219_290, e219_291, e219_292, e219_295, e219_298, e219_301, e219_302, e219_305, e219_308, e219_309, e219_310, e219_311, e219_314, e219_317, e219_320, m219, ↓reduceIte, qg_0, qg_1, qg_2, qg_3, qg_4, qg_5, qg_6, qg_7, qg_8, qg_9, qg_10, qg_11, qg_12, qg_13, not_true_eq_false, not_false_eq_true, Nat.reduceBEq, Bool.false_eq_true, ex1, ex3, ex4, exF, qfit_i, qfit_l, qfit_r, qfit_n, qfit_b0, qfit_b1, qcat_i, qcat_r, qcat_n, qcat_l, qroom_0, qroom_c, List.map_cons, List.map_nil, List.sum_cons, List.sum_nil, Nat.reduceAdd, Nat.reduceMul, Nat.reduceLT, Nat.reduceLeDiff, Nat.reduceEqDiff, Nat.reduceSub, decide_true, true_and, and_true, and_self, if_true, if_false, Option.toList_some, Option.toList_none, List.cons_append, List.nil_append, qsL, qlong, List.length_cons, List.length_nil, iN_L, vM1, vM2, exI, iN_add, iN_mul, iN_le, iN_lt, iN_eq, Nat.le_refl, qfN0, qfN1, show ¬ 4 ≤ k by omega, hkw, lgN_ge, show (2000000000 : Int64) = lZ 2000000000 from rfl, nge, gM_20, gM_21, rM_71, rM_72, uk, lo, hg1, hg2, show (0 : Int64) = lZ 0 from rfl, lZ_0N bg gp, lZ_0N bg2 gp2, q1, q2, q3]) (L := [some (.ref 55), some (.int (iN w)), some (.long (lZ (cpF ps w (4 * p)))), none, some (.int (iN p)), some (.int (iN 0)), x6, x7, none, none, none]) (h := h) ⟨x6, x7, rfl, rfl, q7⟩
  refine ⟨some (.int (iN 4)), y6, y7, z7, fun R => ?_⟩
  rw [r R, e2, e219_39]
  simp (disch := first | assumption | omega) only [e219_0, e219_1, e219_4, e219_6, e219_9, e219_10, e219_13, e219_15, e219_18, e219_21, e219_22, e219_23, e219_24, e219_25, e219_29, e219_30, e219_33, e219_36, e219_37, e219_41, e219_42, e219_45, e219_47, e219_48, e219_51, e219_52, e219_55, e219_56, e219_59, e219_60, e219_63, e219_65, e219_66, e219_67, e219_70, e219_71, e219_73, e219_74, e219_76, e219_77, e219_78, e219_79, e219_82, e219_84, e219_85, e219_88, e219_89, e219_91, e219_92, e219_93, e219_95, e219_98, e219_99, e219_101, e219_102, e219_103, e219_106, e219_109, e219_112, e219_115, e219_116, e219_119, e219_120, e219_123, e219_126, e219_127, e219_128, e219_130, e219_132, e219_133, e219_136, e219_139, e219_140, e219_142, e219_143, e219_145, e219_147, e219_148, e219_151, e219_153, e219_154, e219_157, e219_158, e219_161, e219_162, e219_164, e219_165, e219_167, e219_168, e219_169, e219_170, e219_173, e219_175, e219_176, e219_179, e219_181, e219_182, e219_185, e219_186, e219_188, e219_189, e219_191, e219_192, e219_193, e219_195, e219_196, e219_197, e219_198, e219_201, e219_203, e219_204, e219_206, e219_207, e219_208, e219_209, e219_211, e219_213, e219_216, e219_219, e219_220, e219_223, e219_226, e219_227, e219_228, e219_231, e219_233, e219_235, e219_236, e219_237, e219_240, e219_243, e219_246, e219_247, e219_250, e219_251, e219_252, e219_253, e219_256, e219_257, e219_260, e219_261, e219_264, e219_265, e219_266, e219_267, e219_268, e219_269, e219_272, e219_273, e219_274, e219_275, e219_278, e219_279, e219_280, e219_281, e219_284, e219_285, e219_286, e219_287, e219_290, e219_291, e219_292, e219_295, e219_298, e219_301, e219_302, e219_305, e219_308, e219_309, e219_310, e219_311, e219_314, e219_317, e219_320, m219, ↓reduceIte, qg_0, qg_1, qg_2, qg_3, qg_4, qg_5, qg_6, qg_7, qg_8, qg_9, qg_10, qg_11, qg_12, qg_13, not_true_eq_false, not_false_eq_true, Nat.reduceBEq, Bool.false_eq_true, ex1, ex3, ex4, exF, qfit_i, qfit_l, qfit_r, qfit_n, qfit_b0, qfit_b1, qcat_i, qcat_r, qcat_n, qcat_l, qroom_0, qroom_c, List.map_cons, List.map_nil, List.sum_cons, List.sum_nil, Nat.reduceAdd, Nat.reduceMul, Nat.reduceLT, Nat.reduceLeDiff, Nat.reduceEqDiff, Nat.reduceSub, decide_true, true_and, and_true, and_self, if_true, if_false, Option.toList_some, Option.toList_none, List.cons_append, List.nil_append, qsL, qlong, List.length_cons, List.length_nil, iN_L, vM1, vM2, exI, iN_add, iN_mul, iN_le, iN_lt, iN_eq, Nat.le_refl, qfN0, qfN1, show (4 * (p + 1)) = 4 * p + 4 by omega]
end SCALE

/-! ===== THE REFERENCE: makeWhole ===== -/
section WHL
variable {d : Nat} {h : qH} {ps : List frac} {w : Nat} {bs : List bdy}
/-- a coordinate, made whole by s -/
def vlW (ps : List frac) (s p k : Nat) : Int := (fU ps p k).tdiv (Nat.gcd (fU ps p k).natAbs (fL ps p).natAbs : Nat) * ((s / dnm ps p k : Nat) : Int)
def rwP (w : Nat) (V : Nat → Int) : pt4 := (V (drX w 0), V (drX w 1), V (drX w 2), if w < 4 then 0 else V 3)
def whL (ps : List frac) (w s : Nat) : List pt4 := (List.range ps.length).map fun p => rwP w (vlW ps s p)
theorem whL_len {s : Nat} : (whL ps w s).length = ps.length := by unfold whL; rw [List.length_map, List.length_range]
theorem whL_get {s p : Nat} (hp : p < ps.length) : (whL ps w s).getD p z4 = rwP w (vlW ps s p) := by
  unfold whL
  rw [List.getD_eq_getElem?_getD, List.getElem?_map, List.getElem?_range hp]; rfl
/-- a place that is out of bounds -/
def badW (ps : List frac) (w s p k : Nat) : Prop := k ≠ w ∧ 999 < (vlW ps s p k).natAbs
theorem vlW_b (v : FrV h ps) {s p k : Nat} (hs : s < 2000000000) (hp : p < ps.length) (hk : k < 4) : lB (vlW ps s p k) := by
  have ub := ((v.2.2 p hp).1 k hk).2
  have h1 := Int.natAbs_tdiv_le_natAbs (fU ps p k) (Nat.gcd (fU ps p k).natAbs (fL ps p).natAbs : Nat)
  have h2 : s / dnm ps p k ≤ s := Nat.div_le_self _ _
  unfold lB vlW
  obtain ⟨q, eq⟩ : ∃ q, q = s / dnm ps p k := ⟨_, rfl⟩
  rw [← eq] at h2 ⊢
  have m := mul_b (x := (fU ps p k).tdiv (Nat.gcd (fU ps p k).natAbs (fL ps p).natAbs : Nat)) (y := (q : Int)) (A := 1000000000) (B := 2000000000) (by omega) (by omega)
  omega
set_option maxRecDepth 100000 in
set_option maxHeartbeats 16000000 in
/-- one coordinate -/
theorem mw_k {p k s n : Nat} {g : Nat → Int32} (sh : ShM h) (v : FrV h ps) (hs : s < 2000000000) (hp : p < ps.length) (hk : k < 4) (hw : w ≤ 4) (hn : n < 4) {x7 x8 x9 x10 : Option Value} (q8 : qlong x8 = false) : (k = w → ∀ R, qEv (d + 6) 0 qk_219 145 [some (.ref 55), some (.int (iN w)), some (.long (lZ s)), none, some (.int (iN p)), some (.int (iN n)), some (.int (iN k)), x7, x8, x9, x10] [] (sI h 73 g) R ↔ qEv (d + 6) 0 qk_219 145 [some (.ref 55), some (.int (iN w)), some (.long (lZ s)), none, some (.int (iN p)), some (.int (iN n)), some (.int (iN (k + 1))), x7, x8, x9, x10] [] (sI h 73 g) R) ∧
    (badW ps w s p k → ∀ R, qEv (d + 6) 0 qk_219 145 [some (.ref 55), some (.int (iN w)), some (.long (lZ s)), none, some (.int (iN p)), some (.int (iN n)), some (.int (iN k)), x7, x8, x9, x10] [] (sI h 73 g) R ↔ R = (some (.int (-1005)), sI h 73 g)) ∧
    (k ≠ w → ¬ badW ps w s p k → ∀ R, qEv (d + 6) 0 qk_219 145 [some (.ref 55), some (.int (iN w)), some (.long (lZ s)), none, some (.int (iN p)), some (.int (iN n)), some (.int (iN k)), x7, x8, x9, x10] [] (sI h 73 g) R ↔ qEv (d + 6) 0 qk_219 145 [some (.ref 55), some (.int (iN w)), some (.long (lZ s)), none, some (.int (iN p)), some (.int (iN (n + 1))), some (.int (iN (k + 1))), some (.long (lZ (Nat.gcd (fU ps p k).natAbs (fL ps p).natAbs))), none, some (.long (lZ (vlW ps s p k))), none] [] (sI h 73 (upd g n (iZ (vlW ps s p k)))) R) := by
  have l255 := v.1
  have k73 := kM_73 sh
  have sG : ∀ G, ShM (sI h 73 G) := fun G => sh.rowI k73
  obtain ⟨u1, u2, u3⟩ := v.2.2 p hp
  obtain ⟨uk, ub⟩ := u1 k hk
  have lo := v.lo hp
  have hd := dnm_pos v.b (k := k) hp
  have bL : lB ((fL ps p).natAbs : Int) := by unfold lB; omega
  have bU : lB (fU ps p k) := by unfold lB; omega
  have gle : Nat.gcd (fU ps p k).natAbs (fL ps p).natAbs ≤ (fL ps p).natAbs := Nat.gcd_le_right _ (by omega)
  have gp : 0 < Nat.gcd (fU ps p k).natAbs (fL ps p).natAbs := Nat.gcd_pos_of_pos_right _ (by omega)
  have bg : lB (Nat.gcd (fU ps p k).natAbs (fL ps p).natAbs : Nat) := by unfold lB; omega
  have bd : lB (dnm ps p k : Nat) := by unfold lB; omega
  have bs' : lB (s : Int) := by unfold lB; omega
  have bv := vlW_b (s := s) v hs hp hk
  have hg1 := fun R => s_gcd (d := d + 4) (R := R) (h := sI h 73 g) bU bL
  rw [show ((fL ps p).natAbs : Int).natAbs = (fL ps p).natAbs from rfl] at hg1
  have q1 : lZ ((fL ps p).natAbs : Int) / lZ (Nat.gcd (fU ps p k).natAbs (fL ps p).natAbs : Nat) = lZ (dnm ps p k : Nat) := lZ_divN bL bg
  have q2 : lZ (s : Int) / lZ (dnm ps p k : Nat) = lZ ((s / dnm ps p k : Nat) : Int) := lZ_divN bs' bd
  have q3 : lZ (fU ps p k) / lZ (Nat.gcd (fU ps p k).natAbs (fL ps p).natAbs : Nat) = lZ ((fU ps p k).tdiv (Nat.gcd (fU ps p k).natAbs (fL ps p).natAbs : Nat)) := lZ_div bU bg
  have q4 : lZ ((fU ps p k).tdiv (Nat.gcd (fU ps p k).natAbs (fL ps p).natAbs : Nat)) * lZ ((s / dnm ps p k : Nat) : Int) = lZ (vlW ps s p k) := lZ_mul _ _
  have sz := fun R => s_sized (d := d + 5) (R := R) (h := sI h 73 g) bv
  have l71 : hl (sI h 73 g) 71 = hl h 71 := hl_sI k73
  have l72 : hl (sI h 73 g) 72 = hl h 72 := hl_sI k73
  have sg := sG g
  refine ⟨fun e R => ?_, fun hb R => ?_, fun e hb R => ?_⟩
  · rw [e219_145]
    subst e
    simp (disch := first | assumption | omega) only [e219_0, e219_1, e219_4, e219_6, e219_9, e219_10, e219_13, e219_15, e219_18, e219_21, e219_22, e219_23, e219_24, e219_25, e219_27, e219_29, e219_30, e219_33, e219_36, e219_37, e219_39, e219_41, e219_42, e219_45, e219_47, e219_48, e219_51, e219_52, e219_55, e219_56, e219_59, e219_60, e219_63, e219_65, e219_66, e219_67, e219_70, e219_71, e219_73, e219_74, e219_76, e219_77, e219_78, e219_79, e219_82, e219_84, e219_85, e219_88, e219_89, e219_91, e219_92, e219_93, e219_95, e219_98, e219_99, e219_101, e219_102, e219_103, e219_106, e219_109, e219_112, e219_115, e219_116, e219_119, e219_120, e219_123, e219_126, e219_127, e219_128, e219_130, e219_132, e219_133, e219_136, e219_139, e219_140, e219_142, e219_143, e219_147, e219_148, e219_151, e219_153, e219_154, e219_157, e219_158, e219_161, e219_162, e219_164, e219_165, e219_167, e219_168, e219_169, e219_170, e219_173, e219_175, e219_176, e219_179, e219_181, e219_182, e219_185, e219_186, e219_188, e219_189, e219_191, e219_192, e219_193, e219_195, e219_196, e219_197, e219_198, e219_201, e219_203, e219_204, e219_206, e219_207, e219_208, e219_209, e219_211, e219_213, e219_216, e219_219, e219_220, e219_223, e219_226, e219_227, e219_228, e219_231, e219_233, e219_235, e219_236, e219_237, e219_240, e219_243, e219_246, e219_247, e219_250, e219_251, e219_252, e219_253, e219_256, e219_257, e219_260, e219_261, e219_264, e219_265, e219_266, e219_267, e219_268, e219_269, e219_272, e219_273, e219_274, e219_275, e219_278, e219_279, e219_280, e219_281, e219_284, e219_285, e219_286, e219_287, e219_290, e219_291, e219_292, e219_295, e219_298, e219_301, e219_302, e219_305, e219_308, e219_309, e219_310, e219_311, e219_314, e219_317, e219_320, m219, ↓reduceIte, qg_0, qg_1, qg_2, qg_3, qg_4, qg_5, qg_6, qg_7, qg_8, qg_9, qg_10, qg_11, qg_12, qg_13, not_true_eq_false, not_false_eq_true, Nat.reduceBEq, Bool.false_eq_true, ex1, ex3, ex4, exF, qfit_i, qfit_l, qfit_r, qfit_n, qfit_b0, qfit_b1, qcat_i, qcat_r, qcat_n, qcat_l, qroom_0, qroom_c, List.map_cons, List.map_nil, List.sum_cons, List.sum_nil, Nat.reduceAdd, Nat.reduceMul, Nat.reduceLT, Nat.reduceLeDiff, Nat.reduceEqDiff, Nat.reduceSub, decide_true, true_and, and_true, and_self, if_true, if_false, Option.toList_some, Option.toList_none, List.cons_append, List.nil_append, qsL, qlong, List.length_cons, List.length_nil, iN_L, vM1, vM2, exI, iN_add, iN_mul, iN_le, iN_lt, iN_eq, Nat.le_refl, qfN0, qfN1, show ¬ 4 ≤ k by omega]
  · have hc : ¬ lZ ((vlW ps s p k).natAbs : Int) ≤ lZ 999 := by rw [lZ_le (lB_abs bv) (by unfold lB; omega)]; have := hb.2; omega
    rw [e219_145]
    simp (disch := first | assumption | omega) only [e219_0, e219_1, e219_4, e219_6, e219_9, e219_10, e219_13, e219_15, e219_18, e219_21, e219_22, e219_23, e219_24, e219_25, e219_27, e219_29, e219_30, e219_33, e219_36, e219_37, e219_39, e219_41, e219_42, e219_45, e219_47, e219_48, e219_51, e219_52, e219_55, e219_56, e219_59, e219_60, e219_63, e219_65, e219_66, e219_67, e219_70, e219_71, e219_73, e219_74, e219_76, e219_77, e219_78, e219_79, e219_82, e219_84, e219_85, e219_88, e219_89, e219_91, e219_92, e219_93, e219_95, e219_98, e219_99, e219_101, e219_102, e219_103, e219_106, e219_109, e219_112, e219_115, e219_116, e219_119, e219_120, e219_123, e219_126, e219_127, e219_128, e219_130, e219_132, e219_133, e219_136, e219_139, e219_140, e219_142, e219_143, e219_147, e219_148, e219_151, e219_153, e219_154, e219_157, e219_158, e219_161, e219_162, e219_164, e219_165, e219_167, e219_168, e219_169, e219_170, e219_173, e219_175, e219_176, e219_179, e219_181, e219_182, e219_185, e219_186, e219_188, e219_189, e219_191, e219_192, e219_193, e219_195, e219_196, e219_197, e219_198, e219_201, e219_203, e219_204, e219_206, e219_207, e219_208, e219_209, e219_211, e219_213, e219_216, e219_219, e219_220, e219_223, e219_226, e219_227, e219_228, e219_231, e219_233, e219_235, e219_236, e219_237, e219_240, e219_243, e219_246, e219_247, e219_250, e219_251, e219_252, e219_253, e219_256, e219_257, e219_260, e219_261, e219_264, e219_265, e219_266, e219_267, e219_268, e219_269, e219_272, e219_273, e219_274, e219_275, e219_278, e219_279, e219_280, e219_281, e219_284, e219_285, e219_286, e219_287, e219_290, e219_291, e219_292, e219_295, e219_298, e219_301, e219_302, e219_305, e219_308, e219_309, e219_310, e219_311, e219_314, e219_317, e219_320, m219, ↓reduceIte, qg_0, qg_1, qg_2, qg_3, qg_4, qg_5, qg_6, qg_7, qg_8, qg_9, qg_10, qg_11, qg_12, qg_13, not_true_eq_false, not_false_eq_true, Nat.reduceBEq, Bool.false_eq_true, ex1, ex3, ex4, exF, qfit_i, qfit_l, qfit_r, qfit_n, qfit_b0, qfit_b1, qcat_i, qcat_r, qcat_n, qcat_l, qroom_0, qroom_c, List.map_cons, List.map_nil, List.sum_cons, List.sum_nil, Nat.reduceAdd, Nat.reduceMul, Nat.reduceLT, Nat.reduceLeDiff, Nat.reduceEqDiff, Nat.reduceSub, decide_true, true_and, and_true, and_self, if_true, if_false, Option.toList_some, Option.toList_none, List.cons_append, List.nil_append, qsL, qlong, List.length_cons, List.length_nil, iN_L, vM1, vM2, exI, iN_add, iN_mul, iN_le, iN_lt, iN_eq, Nat.le_refl, qfN0, qfN1, show ¬ 4 ≤ k by omega, hb.1, gM_20, gM_21, rM_71, rM_72, l71, l72, uk, lo, hg1, show (0 : Int64) = lZ 0 from rfl, lZ_0N bg gp, lZ_0N bd hd.1, q1, q2, q3, q4, sz, lgN_le, show (999 : Int64) = lZ 999 from rfl, hc, q8]
  · have hc : lZ ((vlW ps s p k).natAbs : Int) ≤ lZ 999 := by rw [lZ_le (lB_abs bv) (by unfold lB; omega)]; unfold badW at hb; omega
    have t32 : (lZ (vlW ps s p k)).toInt32 = iZ (vlW ps s p k) := by
      show (Int64.ofInt _).toInt32 = Int32.ofInt _
      exact Int64.toInt32_ofInt
    rw [e219_145]
    simp (disch := first | assumption | omega) only [e219_0, e219_1, e219_4, e219_6, e219_9, e219_10, e219_13, e219_15, e219_18, e219_21, e219_22, e219_23, e219_24, e219_25, e219_27, e219_29, e219_30, e219_33, e219_36, e219_37, e219_39, e219_41, e219_42, e219_45, e219_47, e219_48, e219_51, e219_52, e219_55, e219_56, e219_59, e219_60, e219_63, e219_65, e219_66, e219_67, e219_70, e219_71, e219_73, e219_74, e219_76, e219_77, e219_78, e219_79, e219_82, e219_84, e219_85, e219_88, e219_89, e219_91, e219_92, e219_93, e219_95, e219_98, e219_99, e219_101, e219_102, e219_103, e219_106, e219_109, e219_112, e219_115, e219_116, e219_119, e219_120, e219_123, e219_126, e219_127, e219_128, e219_130, e219_132, e219_133, e219_136, e219_139, e219_140, e219_142, e219_143, e219_147, e219_148, e219_151, e219_153, e219_154, e219_157, e219_158, e219_161, e219_162, e219_164, e219_165, e219_167, e219_168, e219_169, e219_170, e219_173, e219_175, e219_176, e219_179, e219_181, e219_182, e219_185, e219_186, e219_188, e219_189, e219_191, e219_192, e219_193, e219_195, e219_196, e219_197, e219_198, e219_201, e219_203, e219_204, e219_206, e219_207, e219_208, e219_209, e219_211, e219_213, e219_216, e219_219, e219_220, e219_223, e219_226, e219_227, e219_228, e219_231, e219_233, e219_235, e219_236, e219_237, e219_240, e219_243, e219_246, e219_247, e219_250, e219_251, e219_252, e219_253, e219_256, e219_257, e219_260, e219_261, e219_264, e219_265, e219_266, e219_267, e219_268, e219_269, e219_272, e219_273, e219_274, e219_275, e219_278, e219_279, e219_280, e219_281, e219_284, e219_285, e219_286, e219_287, e219_290, e219_291, e219_292, e219_295, e219_298, e219_301, e219_302, e219_305, e219_308, e219_309, e219_310, e219_311, e219_314, e219_317, e219_320, m219, ↓reduceIte, qg_0, qg_1, qg_2, qg_3, qg_4, qg_5, qg_6, qg_7, qg_8, qg_9, qg_10, qg_11, qg_12, qg_13, not_true_eq_false, not_false_eq_true, Nat.reduceBEq, Bool.false_eq_true, ex1, ex3, ex4, exF, qfit_i, qfit_l, qfit_r, qfit_n, qfit_b0, qfit_b1, qcat_i, qcat_r, qcat_n, qcat_l, qroom_0, qroom_c, List.map_cons, List.map_nil, List.sum_cons, List.sum_nil, Nat.reduceAdd, Nat.reduceMul, Nat.reduceLT, Nat.reduceLeDiff, Nat.reduceEqDiff, Nat.reduceSub, decide_true, true_and, and_true, and_self, if_true, if_false, Option.toList_some, Option.toList_none, List.cons_append, List.nil_append, qsL, qlong, List.length_cons, List.length_nil, iN_L, vM1, vM2, exI, iN_add, iN_mul, iN_le, iN_lt, iN_eq, Nat.le_refl, qfN0, qfN1, show ¬ 4 ≤ k by omega, e, gM_20, gM_21, gM_23, rM_71, rM_72, l71, l72, uk, lo, hg1, show (0 : Int64) = lZ 0 from rfl, lZ_0N bg gp, lZ_0N bd hd.1, q1, q2, q3, q4, sz, lgN_le, show (999 : Int64) = lZ 999 from rfl, hc, q8, wM_73, hi_sI, sI_sI, t32]
/-- how many coordinates stand in the row -/
def nkW (w k : Nat) : Nat := if k ≤ w then k else k - 1
theorem mw_row {p s : Nat} (sh : ShM h) (v : FrV h ps) (hs : s < 2000000000) (hp : p < ps.length) (hw : w ≤ 4) : ∀ (c k : Nat) (g : Nat → Int32) (x7 x8 x9 x10 : Option Value), k + c = 4 → qlong x8 = false → (∀ t, t < nkW w k → g t = iZ (vlW ps s p (drX w t))) →
    (∃ g', (∃ t, k ≤ t ∧ t < 4 ∧ badW ps w s p t) ∧ ∀ R, qEv (d + 6) 0 qk_219 145 [some (.ref 55), some (.int (iN w)), some (.long (lZ s)), none, some (.int (iN p)), some (.int (iN (nkW w k))), some (.int (iN k)), x7, x8, x9, x10] [] (sI h 73 g) R ↔ R = (some (.int (-1005)), sI h 73 g')) ∨
    (∃ g' y7 y8 y9 y10, (∀ t, k ≤ t → t < 4 → ¬ badW ps w s p t) ∧ qlong y8 = false ∧ (∀ t, t < nkW w 4 → g' t = iZ (vlW ps s p (drX w t))) ∧ ∀ R, qEv (d + 6) 0 qk_219 145 [some (.ref 55), some (.int (iN w)), some (.long (lZ s)), none, some (.int (iN p)), some (.int (iN (nkW w k))), some (.int (iN k)), x7, x8, x9, x10] [] (sI h 73 g) R ↔ qEv (d + 6) 0 qk_219 145 [some (.ref 55), some (.int (iN w)), some (.long (lZ s)), none, some (.int (iN p)), some (.int (iN (nkW w 4))), some (.int (iN 4)), y7, y8, y9, y10] [] (sI h 73 g') R) := by
  intro c
  induction c with
  | zero =>
    intro k g x7 x8 x9 x10 hk q8 hg
    have e : k = 4 := by omega
    subst e
    exact Or.inr ⟨g, x7, x8, x9, x10, fun t h1 h2 => by omega, q8, hg, fun R => Iff.rfl⟩
  | succ c ih =>
    intro k g x7 x8 x9 x10 hk q8 hg
    have hn : nkW w k < 4 := by unfold nkW; split <;> omega
    obtain ⟨r1, r2, r3⟩ := mw_k (d := d) (g := g) (n := nkW w k) (x7 := x7) (x8 := x8) (x9 := x9) (x10 := x10) sh v hs hp (show k < 4 by omega) hw hn q8
    by_cases e : k = w
    · have en : nkW w (k + 1) = nkW w k := by unfold nkW; rw [if_neg (by omega), if_pos (by omega)]; omega
      rcases ih (k + 1) g x7 x8 x9 x10 (by omega) q8 (by rw [en]; exact hg) with ⟨g', ⟨t, t1, t2, t3⟩, r⟩ | ⟨g', y7, y8, y9, y10, a, b, e2, r⟩
      · exact Or.inl ⟨g', ⟨t, by omega, t2, t3⟩, fun R => by rw [r1 e R, ← en]; exact r R⟩
      · refine Or.inr ⟨g', y7, y8, y9, y10, fun t h1 h2 => ?_, b, e2, fun R => by rw [r1 e R, ← en]; exact r R⟩
        by_cases q : t = k
        · exact fun z => z.1 (q.trans e)
        · exact a t (by omega) h2
    · by_cases hb : badW ps w s p k
      · exact Or.inl ⟨g, ⟨k, Nat.le_refl _, by omega, hb⟩, r2 hb⟩
      · have en : nkW w (k + 1) = nkW w k + 1 := by unfold nkW; split <;> split <;> omega
        have ex : drX w (nkW w k) = k := by unfold drX nkW; split <;> split <;> omega
        rcases ih (k + 1) (upd g (nkW w k) (iZ (vlW ps s p k))) _ none _ none (by omega) rfl (fun t ht => by
          rw [upd_at]
          by_cases q : t = nkW w k
          · rw [if_pos q, q, ex]
          · rw [if_neg q]; exact hg t (by rw [en] at ht; omega)) with ⟨g', ⟨t, t1, t2, t3⟩, r⟩ | ⟨g', y7, y8, y9, y10, a, b, e2, r⟩
        · exact Or.inl ⟨g', ⟨t, by omega, t2, t3⟩, fun R => by rw [r3 e hb R, ← en]; exact r R⟩
        · refine Or.inr ⟨g', y7, y8, y9, y10, fun t h1 h2 => ?_, b, e2, fun R => by rw [r3 e hb R, ← en]; exact r R⟩
          by_cases q : t = k
          · rw [q]; exact hb
          · exact a t (by omega) h2
set_option maxRecDepth 100000 in
set_option maxHeartbeats 16000000 in
/-- one part -/
theorem mw_p {p s D : Nat} {l : List pt4} (sh : ShM h) (v : FrV h ps) (hs : s < 2000000000) (hp : p < ps.length) (hw : w ≤ 4) (hd : mi h 8 = iN D) (hD : D < 2147483648) (pv : PtV h l) (hl : l.length < 256) {x5 x6 x7 x8 x9 x10 : Option Value} (q8 : qlong x8 = false) (q4 : qlong x6 = true → x7 = none) :
    (∃ h', Ch [63, 73] [9] h h' ∧ (∃ k, k < 4 ∧ badW ps w s p k) ∧ ∀ R, qEv (d + 6) 0 qk_219 130 [some (.ref 55), some (.int (iN w)), some (.long (lZ s)), none, some (.int (iN p)), x5, x6, x7, x8, x9, x10] [] h R ↔ R = (some (.int (-1005)), h')) ∨
    (∃ h' y5 y6 y7 y8 y9 y10, Ch [63, 73] [9] h h' ∧ (∀ k, k < 4 → ¬ badW ps w s p k) ∧ qlong y8 = false ∧ (qlong y6 = true → y7 = none) ∧ PtV h' (addP l (prj D (rwP w (vlW ps s p)))) ∧ ∀ R, qEv (d + 6) 0 qk_219 130 [some (.ref 55), some (.int (iN w)), some (.long (lZ s)), none, some (.int (iN p)), x5, x6, x7, x8, x9, x10] [] h R ↔ qEv (d + 6) 0 qk_219 130 [some (.ref 55), some (.int (iN w)), some (.long (lZ s)), none, some (.int (iN (p + 1))), y5, y6, y7, y8, y9, y10] [] h' R) := by
  have l255 := v.1
  have k73 := kM_73 sh
  have sG : ∀ G, ShM (sI h 73 G) := fun G => sh.rowI k73
  have r0 : ∃ z7, ∀ R, qEv (d + 6) 0 qk_219 130 [some (.ref 55), some (.int (iN w)), some (.long (lZ s)), none, some (.int (iN p)), x5, x6, x7, x8, x9, x10] [] h R ↔ qEv (d + 6) 0 qk_219 145 [some (.ref 55), some (.int (iN w)), some (.long (lZ s)), none, some (.int (iN p)), some (.int (iN (nkW w 0))), some (.int (iN 0)), z7, x8, x9, x10] [] (sI h 73 (hi h 73)) R := by
    have en : nkW w 0 = 0 := if_pos (Nat.zero_le _)
    refine ⟨x7, fun R => ?_⟩
    rw [e219_130, sI_id k73, en]
    simp (disch := first | assumption | omega) only [e219_0, e219_1, e219_4, e219_6, e219_9, e219_10, e219_13, e219_15, e219_18, e219_21, e219_22, e219_23, e219_24, e219_25, e219_27, e219_29, e219_30, e219_33, e219_36, e219_37, e219_39, e219_41, e219_42, e219_45, e219_47, e219_48, e219_51, e219_52, e219_55, e219_56, e219_59, e219_60, e219_63, e219_65, e219_66, e219_67, e219_70, e219_71, e219_73, e219_74, e219_76, e219_77, e219_78, e219_79, e219_82, e219_84, e219_85, e219_88, e219_89, e219_91, e219_92, e219_93, e219_95, e219_98, e219_99, e219_101, e219_102, e219_103, e219_106, e219_109, e219_112, e219_115, e219_116, e219_119, e219_120, e219_123, e219_126, e219_127, e219_128, e219_132, e219_133, e219_136, e219_139, e219_140, e219_142, e219_143, e219_147, e219_148, e219_151, e219_153, e219_154, e219_157, e219_158, e219_161, e219_162, e219_164, e219_165, e219_167, e219_168, e219_169, e219_170, e219_173, e219_175, e219_176, e219_179, e219_181, e219_182, e219_185, e219_186, e219_188, e219_189, e219_191, e219_192, e219_193, e219_195, e219_196, e219_197, e219_198, e219_201, e219_203, e219_204, e219_206, e219_207, e219_208, e219_209, e219_211, e219_213, e219_216, e219_219, e219_220, e219_223, e219_226, e219_227, e219_228, e219_231, e219_233, e219_235, e219_236, e219_237, e219_240, e219_243, e219_246, e219_247, e219_250, e219_251, e219_252, e219_253, e219_256, e219_257, e219_260, e219_261, e219_264, e219_265, e219_266, e219_267, e219_268, e219_269, e219_272, e219_273, e219_274, e219_275, e219_278, e219_279, e219_280, e219_281, e219_284, e219_285, e219_286, e219_287, e219_290, e219_291, e219_292, e219_295, e219_298, e219_301, e219_302, e219_305, e219_308, e219_309, e219_310, e219_311, e219_314, e219_317, e219_320, m219, ↓reduceIte, qg_0, qg_1, qg_2, qg_3, qg_4, qg_5, qg_6, qg_7, qg_8, qg_9, qg_10, qg_11, qg_12, qg_13, not_true_eq_false, not_false_eq_true, Nat.reduceBEq, Bool.false_eq_true, ex1, ex3, ex4, exF, qfit_i, qfit_l, qfit_r, qfit_n, qfit_b0, qfit_b1, qcat_i, qcat_r, qcat_n, qcat_l, qroom_0, qroom_c, List.map_cons, List.map_nil, List.sum_cons, List.sum_nil, Nat.reduceAdd, Nat.reduceMul, Nat.reduceLT, Nat.reduceLeDiff, Nat.reduceEqDiff, Nat.reduceSub, decide_true, true_and, and_true, and_self, if_true, if_false, Option.toList_some, Option.toList_none, List.cons_append, List.nil_append, qsL, qlong, List.length_cons, List.length_nil, iN_L, vM1, vM2, exI, iN_add, iN_mul, iN_le, iN_lt, iN_eq, Nat.le_refl, qfN0, qfN1, gM_22, v.2.1, show ¬ ps.length ≤ p by omega]
  obtain ⟨z7, r0⟩ := r0
  rcases mw_row (d := d) sh v hs hp hw 4 0 (hi h 73) z7 x8 x9 x10 (by omega) q8 (fun t ht => absurd ht (by rw [show nkW w 0 = 0 from if_pos (Nat.zero_le _)]; exact Nat.not_lt_zero t)) with ⟨g', ⟨t, t1, t2, t3⟩, r⟩ | ⟨g', y7, y8, y9, y10, a, b, e2, r⟩
  · exact Or.inl ⟨_, Ch.rowI sh k73 (by decide), ⟨t, t2, t3⟩, fun R => (r0 R).trans (r R)⟩
  · right
    have sg := sG g'
    have bnd : ∀ k, k < 4 → k ≠ w → iB (vlW ps s p k) := fun k hk hkw => by
      have := a k (by omega) hk
      unfold badW at this
      unfold iB; omega
    obtain ⟨g2, eg2⟩ : ∃ g2, g2 = upd g' 3 (if w < 4 then iN 0 else g' 3) := ⟨_, rfl⟩
    have sg2 := sG g2
    have n3 : 3 ≤ nkW w 4 := by unfold nkW; split <;> omega
    have row : ∀ t, t < 3 → g2 t = iZ (vlW ps s p (drX w t)) := fun t ht => by rw [eg2, upd_at, if_neg (by omega)]; exact e2 t (by omega)
    have row3 : g2 3 = iZ (if w < 4 then 0 else vlW ps s p 3) := by
      rw [eg2, upd_at, if_pos rfl]
      by_cases q : w < 4
      · rw [if_pos q, if_pos q]; rfl
      · rw [if_neg q, if_neg q, e2 3 (by unfold nkW; rw [if_pos (by omega)]; decide)]
        have : drX w 3 = 3 := if_pos (by omega)
        rw [this]
    have dne : ∀ t, t < 3 → drX w t ≠ w ∧ drX w t < 4 := fun t ht => by unfold drX; split <;> omega
    have hq : ptB (rwP w (vlW ps s p)) := by
      intro k hk
      match k, hk with
      | 0, _ => exact bnd _ (dne 0 (by decide)).2 (dne 0 (by decide)).1
      | 1, _ => exact bnd _ (dne 1 (by decide)).2 (dne 1 (by decide)).1
      | 2, _ => exact bnd _ (dne 2 (by decide)).2 (dne 2 (by decide)).1
      | 3, _ =>
        show iB (if w < 4 then 0 else vlW ps s p 3)
        by_cases q : w < 4
        · rw [if_pos q]; unfold iB; omega
        · rw [if_neg q]; exact bnd 3 (by decide) (by omega)
    have c1 : Ch [63, 73] [9] h (sI h 73 g2) := Ch.rowI sh k73 (by decide)
    have pv1 : PtV (sI h 73 g2) l := pv.ch (Ch.rowI (A := [73]) (J := []) sh k73 (by decide)) (by decide) (by decide)
    have hd1 : mi (sI h 73 g2) 8 = iN D := by rw [mi_sI k73]; exact hd
    obtain ⟨h3, r3, c3', pv3⟩ := s_tell (d := d + 4) (q := rwP w (vlW ps s p)) sg2 hd1 hD pv1 hl hq
    have r3' : ∀ R, qMC (d + 6) 201 [.ref 55, .int (iZ (vlW ps s p (drX w 0))), .int (iZ (vlW ps s p (drX w 1))), .int (iZ (vlW ps s p (drX w 2))), .int (iZ (if w < 4 then 0 else vlW ps s p 3))] (sI h 73 g2) R ↔ R = (none, h3) := r3
    refine ⟨h3, some (.int (iN (nkW w 4))), some (.int (iN 4)), y7, y8, y9, y10, c1.trans (c3'.mono (by decide) (by decide)), fun k hk => a k (by omega) hk, b, (fun z => (by cases z)), pv3, fun R => ?_⟩
    rw [r0 R, r R, e219_145]
    have e73 : hi (sI h 73 g') 73 = g' := by rw [hi_sI, if_pos rfl]
    have f73 : hi (sI h 73 g2) 73 = g2 := by rw [hi_sI, if_pos rfl]
    by_cases q : w < 4
    · rw [if_pos q] at eg2
      simp (disch := first | assumption | omega) only [e219_0, e219_1, e219_4, e219_6, e219_9, e219_10, e219_13, e219_15, e219_18, e219_21, e219_22, e219_23, e219_24, e219_25, e219_27, e219_29, e219_30, e219_33, e219_36, e219_37, e219_39, e219_41, e219_42, e219_45, e219_47, e219_48, e219_51, e219_52, e219_55, e219_56, e219_59, e219_60, e219_63, e219_65, e219_66, e219_67, e219_70, e219_71, e219_73, e219_74, e219_76, e219_77, e219_78, e219_79, e219_82, e219_84, e219_85, e219_88, e219_89, e219_91, e219_92, e219_93, e219_95, e219_98, e219_99, e219_101, e219_102, e219_103, e219_106, e219_109, e219_112, e219_115, e219_116, e219_119, e219_120, e219_123, e219_126, e219_127, e219_128, e219_132, e219_133, e219_136, e219_139, e219_140, e219_142, e219_143, e219_147, e219_148, e219_151, e219_153, e219_154, e219_157, e219_158, e219_161, e219_162, e219_164, e219_165, e219_167, e219_168, e219_169, e219_170, e219_173, e219_175, e219_176, e219_179, e219_181, e219_182, e219_185, e219_186, e219_188, e219_189, e219_191, e219_192, e219_193, e219_195, e219_196, e219_197, e219_198, e219_201, e219_203, e219_204, e219_206, e219_207, e219_208, e219_209, e219_211, e219_213, e219_216, e219_219, e219_220, e219_223, e219_226, e219_227, e219_228, e219_231, e219_233, e219_235, e219_236, e219_237, e219_240, e219_243, e219_246, e219_247, e219_250, e219_251, e219_252, e219_253, e219_256, e219_257, e219_260, e219_261, e219_264, e219_265, e219_266, e219_267, e219_268, e219_269, e219_272, e219_273, e219_274, e219_275, e219_278, e219_279, e219_280, e219_281, e219_284, e219_285, e219_286, e219_287, e219_290, e219_291, e219_292, e219_295, e219_298, e219_301, e219_302, e219_305, e219_308, e219_309, e219_310, e219_311, e219_314, e219_317, e219_320, m219, ↓reduceIte, qg_0, qg_1, qg_2, qg_3, qg_4, qg_5, qg_6, qg_7, qg_8, qg_9, qg_10, qg_11, qg_12, qg_13, not_true_eq_false, not_false_eq_true, Nat.reduceBEq, Bool.false_eq_true, ex1, ex3, ex4, exF, qfit_i, qfit_l, qfit_r, qfit_n, qfit_b0, qfit_b1, qcat_i, qcat_r, qcat_n, qcat_l, qroom_0, qroom_c, List.map_cons, List.map_nil, List.sum_cons, List.sum_nil, Nat.reduceAdd, Nat.reduceMul, Nat.reduceLT, Nat.reduceLeDiff, Nat.reduceEqDiff, Nat.reduceSub, decide_true, true_and, and_true, and_self, if_true, if_false, Option.toList_some, Option.toList_none, List.cons_append, List.nil_append, qsL, qlong, List.length_cons, List.length_nil, iN_L, vM1, vM2, exI, iN_add, iN_mul, iN_le, iN_lt, iN_eq, Nat.le_refl, qfN0, qfN1, gM_23, show ¬ 4 ≤ w by omega, wM_73, rM_73, e73, sI_sI, ← eg2, f73, row 0 (by decide), row 1 (by decide), row 2 (by decide), row3, r3']
    · rw [if_neg q] at eg2
      simp (disch := first | assumption | omega) only [e219_0, e219_1, e219_4, e219_6, e219_9, e219_10, e219_13, e219_15, e219_18, e219_21, e219_22, e219_23, e219_24, e219_25, e219_27, e219_29, e219_30, e219_33, e219_36, e219_37, e219_39, e219_41, e219_42, e219_45, e219_47, e219_48, e219_51, e219_52, e219_55, e219_56, e219_59, e219_60, e219_63, e219_65, e219_66, e219_67, e219_70, e219_71, e219_73, e219_74, e219_76, e219_77, e219_78, e219_79, e219_82, e219_84, e219_85, e219_88, e219_89, e219_91, e219_92, e219_93, e219_95, e219_98, e219_99, e219_101, e219_102, e219_103, e219_106, e219_109, e219_112, e219_115, e219_116, e219_119, e219_120, e219_123, e219_126, e219_127, e219_128, e219_132, e219_133, e219_136, e219_139, e219_140, e219_142, e219_143, e219_147, e219_148, e219_151, e219_153, e219_154, e219_157, e219_158, e219_161, e219_162, e219_164, e219_165, e219_167, e219_168, e219_169, e219_170, e219_173, e219_175, e219_176, e219_179, e219_181, e219_182, e219_185, e219_186, e219_188, e219_189, e219_191, e219_192, e219_193, e219_195, e219_196, e219_197, e219_198, e219_201, e219_203, e219_204, e219_206, e219_207, e219_208, e219_209, e219_211, e219_213, e219_216, e219_219, e219_220, e219_223, e219_226, e219_227, e219_228, e219_231, e219_233, e219_235, e219_236, e219_237, e219_240, e219_243, e219_246, e219_247, e219_250, e219_251, e219_252, e219_253, e219_256, e219_257, e219_260, e219_261, e219_264, e219_265, e219_266, e219_267, e219_268, e219_269, e219_272, e219_273, e219_274, e219_275, e219_278, e219_279, e219_280, e219_281, e219_284, e219_285, e219_286, e219_287, e219_290, e219_291, e219_292, e219_295, e219_298, e219_301, e219_302, e219_305, e219_308, e219_309, e219_310, e219_311, e219_314, e219_317, e219_320, m219, ↓reduceIte, qg_0, qg_1, qg_2, qg_3, qg_4, qg_5, qg_6, qg_7, qg_8, qg_9, qg_10, qg_11, qg_12, qg_13, not_true_eq_false, not_false_eq_true, Nat.reduceBEq, Bool.false_eq_true, ex1, ex3, ex4, exF, qfit_i, qfit_l, qfit_r, qfit_n, qfit_b0, qfit_b1, qcat_i, qcat_r, qcat_n, qcat_l, qroom_0, qroom_c, List.map_cons, List.map_nil, List.sum_cons, List.sum_nil, Nat.reduceAdd, Nat.reduceMul, Nat.reduceLT, Nat.reduceLeDiff, Nat.reduceEqDiff, Nat.reduceSub, decide_true, true_and, and_true, and_self, if_true, if_false, Option.toList_some, Option.toList_none, List.cons_append, List.nil_append, qsL, qlong, List.length_cons, List.length_nil, iN_L, vM1, vM2, exI, iN_add, iN_mul, iN_le, iN_lt, iN_eq, Nat.le_refl, qfN0, qfN1, gM_23, show 4 ≤ w by omega, wM_73, rM_73, e73, sI_sI, ← eg2, f73, row 0 (by decide), row 1 (by decide), row 2 (by decide), row3, r3']
end WHL

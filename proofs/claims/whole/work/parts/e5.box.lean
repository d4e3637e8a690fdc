/-! ===== THE REFERENCE: whole, the box ===== -/
section BOX
variable {d : Nat} {h : qH} {bs : List bdy} {i : Nat}
def mnZ (f : Nat → Int) : Nat → Int
  | 0 => f 0
  | c + 1 => if f c < mnZ f c then f c else mnZ f c
def mxZ (f : Nat → Int) : Nat → Int
  | 0 => f 0
  | c + 1 => if mxZ f c < f c then f c else mxZ f c
theorem mnZ_b {f : Nat → Int} {n : Nat} (h0 : -999 ≤ f 0 ∧ f 0 ≤ 999) (hf : ∀ c, c < n → -999 ≤ f c ∧ f c ≤ 999) : ∀ c, c ≤ n → -999 ≤ mnZ f c ∧ mnZ f c ≤ 999
  | 0, _ => h0
  | c + 1, hc => by
    have h1 := mnZ_b h0 hf c (by omega)
    have h2 := hf c (by omega)
    rw [mnZ]
    split <;> assumption
theorem mxZ_b {f : Nat → Int} {n : Nat} (h0 : -999 ≤ f 0 ∧ f 0 ≤ 999) (hf : ∀ c, c < n → -999 ≤ f c ∧ f c ≤ 999) : ∀ c, c ≤ n → -999 ≤ mxZ f c ∧ mxZ f c ≤ 999
  | 0, _ => h0
  | c + 1, hc => by
    have h1 := mxZ_b h0 hf c (by omega)
    have h2 := hf c (by omega)
    rw [mxZ]
    split <;> assumption
theorem mn_mx {f : Nat → Int} : ∀ c, mnZ f c ≤ mxZ f c
  | 0 => Int.le_refl _
  | c + 1 => by
    have := mn_mx (f := f) c
    rw [mnZ, mxZ]
    split <;> split <;> omega
noncomputable def loW (bs : List bdy) (i k : Nat) : Int := mnZ (fun c => lP (cnr bs i) c k) (cnr bs i).length
noncomputable def hiW (bs : List bdy) (i k : Nat) : Int := mxZ (fun c => lP (cnr bs i) c k) (cnr bs i).length
noncomputable def wdW (bs : List bdy) (i t k : Nat) : Int := (t : Int) * (hiW bs i k - loW bs i k) + 1
noncomputable def pdW (bs : List bdy) (i t : Nat) : Nat → Int
  | 0 => 1
  | k + 1 => pdW bs i t k * wdW bs i t k
def BxV (h : qH) (bs : List bdy) (i t K : Nat) : Prop := ∀ k, k < K → hi h 91 k = iZ ((t : Int) * loW bs i k) ∧ hi h 92 k = iZ (wdW bs i t k)
set_option maxRecDepth 100000 in
set_option maxHeartbeats 16000000 in
theorem bx_min {t z k : Nat} {P : Int64} (x10 x11 x12 x13 : Option Value) (s : ShM h) (B : BsM h bs) (hi' : i < bs.length) (hk : k < 4) (R : qRes) : qEv (d + 2) 0 qk_290 67 [some (.ref 55), some (.int (iN i)), some (.int (iN t)), some (.int (iN z)), some (.long P), none, some (.int (iN k)), some (.int (iZ (lP (cnr bs i) 0 k))), some (.int (iZ (lP (cnr bs i) 0 k))), some (.int (iN 0)), x10, x11, x12, x13] [] h R ↔ qEv (d + 2) 0 qk_290 67 [some (.ref 55), some (.int (iN i)), some (.int (iN t)), some (.int (iN z)), some (.long P), none, some (.int (iN k)), some (.int (iZ (loW bs i k))), some (.int (iZ (hiW bs i k))), some (.int (iN ((cnr bs i).length))), x10, x11, x12, x13] [] h R := by
  have b24 := B.1
  have li := (B.corn hi').2.1
  have n57 := (B.corn hi').1
  have nc := B.nc hi'
  obtain ⟨f, ef⟩ : ∃ f : Nat → Int, f = fun c => lP (cnr bs i) c k := ⟨_, rfl⟩
  have fb : ∀ c, c < (cnr bs i).length → -999 ≤ f c ∧ f c ≤ 999 := fun c hc => by rw [ef]; exact ((B.corn hi').2.2 c hc k hk).2
  have f0 := fb 0 (by omega)
  unfold loW hiW
  rw [← ef, show lP (cnr bs i) 0 k = f 0 by rw [ef]]
  refine loop_up (n := (cnr bs i).length) (L := fun c => [some (.ref 55), some (.int (iN i)), some (.int (iN t)), some (.int (iN z)), some (.long P), none, some (.int (iN k)), some (.int (iZ (mnZ f c))), some (.int (iZ (mxZ f c))), some (.int (iN c)), x10, x11, x12, x13]) (H := fun _ => h) ?_
  intro c hc
  try dsimp only
  have xx : ∀ R, qMC (d + 2) 194 [.ref 55, .int (iN i), .int (iN c), .int (iN k)] h R ↔ R = (some (.int (iZ (f c))), h) := fun R => by rw [s_x s (by omega), ((B.corn hi').2.2 c hc k hk).1, ef]
  have b1 := mnZ_b f0 fb c (by omega)
  have b2 := mxZ_b f0 fb c (by omega)
  have b3 := fb c hc
  have i1 : iB (mnZ f c) := ⟨by omega, by omega⟩
  have i2 : iB (mxZ f c) := ⟨by omega, by omega⟩
  have i3 : iB (f c) := ⟨by omega, by omega⟩
  rw [e290_67, mnZ, mxZ]
  by_cases q1 : f c < mnZ f c
  · have w1 : ¬ iZ (mnZ f c) ≤ iZ (f c) := by rw [iZ_le i1 i3]; omega
    rw [if_pos q1]
    by_cases q2 : mxZ f c < f c
    · have w2 : ¬ iZ (f c) ≤ iZ (mxZ f c) := by rw [iZ_le i3 i2]; omega
      rw [if_pos q2]
      simp (disch := first | assumption | omega) only [e290_0, e290_1, e290_2, e290_5, e290_8, e290_11, e290_12, e290_13, e290_14, e290_15, e290_18, e290_21, e290_24, e290_25, e290_26, e290_27, e290_28, e290_31, e290_34, e290_37, e290_38, e290_39, e290_41, e290_42, e290_44, e290_46, e290_47, e290_50, e290_51, e290_52, e290_53, e290_55, e290_58, e290_60, e290_62, e290_64, e290_65, e290_69, e290_70, e290_73, e290_74, e290_75, e290_78, e290_79, e290_80, e290_82, e290_84, e290_87, e290_89, e290_92, e290_93, e290_94, e290_96, e290_98, e290_101, e290_104, e290_106, e290_108, e290_109, e290_110, e290_112, e290_114, e290_117, e290_119, e290_122, e290_123, e290_124, e290_126, e290_128, e290_131, e290_134, e290_136, e290_138, e290_141, e290_144, e290_145, e290_148, e290_150, e290_151, e290_153, e290_154, e290_155, e290_156, e290_159, e290_161, e290_162, e290_164, e290_166, e290_167, e290_168, e290_169, e290_170, e290_171, e290_173, e290_174, e290_177, e290_179, e290_180, e290_181, e290_182, e290_184, e290_187, e290_190, e290_192, e290_195, e290_196, e290_199, e290_202, e290_203, e290_204, e290_206, e290_207, e290_209, e290_211, e290_212, e290_214, e290_215, e290_218, e290_219, e290_222, e290_223, e290_224, e290_226, e290_227, e290_230, e290_231, e290_232, e290_233, e290_234, e290_236, e290_237, e290_240, e290_241, e290_242, e290_244, e290_245, e290_248, e290_249, e290_250, e290_251, e290_252, e290_255, e290_256, e290_257, e290_258, e290_259, e290_261, e290_262, e290_265, e290_266, e290_267, e290_269, e290_270, e290_273, e290_274, e290_275, e290_276, e290_277, e290_280, e290_281, e290_282, e290_283, e290_284, e290_287, e290_288, e290_289, e290_290, e290_291, e290_293, e290_294, e290_297, e290_298, e290_299, e290_301, e290_302, e290_305, e290_306, e290_307, e290_308, e290_309, e290_312, e290_313, e290_314, e290_315, e290_316, e290_319, e290_320, e290_321, e290_322, e290_323, e290_325, e290_326, e290_328, e290_329, e290_331, e290_333, e290_334, e290_335, e290_338, e290_341, e290_343, e290_346, e290_347, e290_348, e290_350, e290_352, e290_354, e290_356, e290_358, e290_359, e290_362, e290_363, e290_364, e290_365, e290_366, e290_369, e290_370, e290_373, e290_374, e290_376, e290_379, e290_382, e290_384, e290_386, e290_389, e290_390, e290_393, e290_394, e290_395, e290_397, e290_400, e290_403, e290_405, m290, ↓reduceIte, qg_0, qg_1, qg_2, qg_3, qg_4, qg_5, qg_6, qg_7, qg_8, qg_9, qg_10, qg_11, qg_12, qg_13, not_true_eq_false, not_false_eq_true, Nat.reduceBEq, Bool.false_eq_true, ex1, ex3, ex4, exF, qfit_i, qfit_l, qfit_r, qfit_n, qfit_b0, qfit_b1, qcat_i, qcat_r, qcat_n, qcat_l, qroom_0, qroom_c, List.map_cons, List.map_nil, List.sum_cons, List.sum_nil, Nat.reduceAdd, Nat.reduceMul, Nat.reduceLT, Nat.reduceLeDiff, Nat.reduceEqDiff, Nat.reduceSub, decide_true, true_and, and_true, and_self, if_true, if_false, Option.toList_some, Option.toList_none, List.cons_append, List.nil_append, qsL, qlong, List.length_cons, List.length_nil, iN_L, vM1, vM2, exI, iN_add, iN_mul, iN_le, iN_lt, iN_eq, Nat.le_refl, qfN0, qfN1, gM_2, rM_57, n57, show ¬ (cnr bs i).length ≤ c by omega, xx, w1, w2]
    · have w2 : iZ (f c) ≤ iZ (mxZ f c) := by rw [iZ_le i3 i2]; omega
      rw [if_neg q2]
      simp (disch := first | assumption | omega) only [e290_0, e290_1, e290_2, e290_5, e290_8, e290_11, e290_12, e290_13, e290_14, e290_15, e290_18, e290_21, e290_24, e290_25, e290_26, e290_27, e290_28, e290_31, e290_34, e290_37, e290_38, e290_39, e290_41, e290_42, e290_44, e290_46, e290_47, e290_50, e290_51, e290_52, e290_53, e290_55, e290_58, e290_60, e290_62, e290_64, e290_65, e290_69, e290_70, e290_73, e290_74, e290_75, e290_78, e290_79, e290_80, e290_82, e290_84, e290_87, e290_89, e290_92, e290_93, e290_94, e290_96, e290_98, e290_101, e290_104, e290_106, e290_108, e290_109, e290_110, e290_112, e290_114, e290_117, e290_119, e290_122, e290_123, e290_124, e290_126, e290_128, e290_131, e290_134, e290_136, e290_138, e290_141, e290_144, e290_145, e290_148, e290_150, e290_151, e290_153, e290_154, e290_155, e290_156, e290_159, e290_161, e290_162, e290_164, e290_166, e290_167, e290_168, e290_169, e290_170, e290_171, e290_173, e290_174, e290_177, e290_179, e290_180, e290_181, e290_182, e290_184, e290_187, e290_190, e290_192, e290_195, e290_196, e290_199, e290_202, e290_203, e290_204, e290_206, e290_207, e290_209, e290_211, e290_212, e290_214, e290_215, e290_218, e290_219, e290_222, e290_223, e290_224, e290_226, e290_227, e290_230, e290_231, e290_232, e290_233, e290_234, e290_236, e290_237, e290_240, e290_241, e290_242, e290_244, e290_245, e290_248, e290_249, e290_250, e290_251, e290_252, e290_255, e290_256, e290_257, e290_258, e290_259, e290_261, e290_262, e290_265, e290_266, e290_267, e290_269, e290_270, e290_273, e290_274, e290_275, e290_276, e290_277, e290_280, e290_281, e290_282, e290_283, e290_284, e290_287, e290_288, e290_289, e290_290, e290_291, e290_293, e290_294, e290_297, e290_298, e290_299, e290_301, e290_302, e290_305, e290_306, e290_307, e290_308, e290_309, e290_312, e290_313, e290_314, e290_315, e290_316, e290_319, e290_320, e290_321, e290_322, e290_323, e290_325, e290_326, e290_328, e290_329, e290_331, e290_333, e290_334, e290_335, e290_338, e290_341, e290_343, e290_346, e290_347, e290_348, e290_350, e290_352, e290_354, e290_356, e290_358, e290_359, e290_362, e290_363, e290_364, e290_365, e290_366, e290_369, e290_370, e290_373, e290_374, e290_376, e290_379, e290_382, e290_384, e290_386, e290_389, e290_390, e290_393, e290_394, e290_395, e290_397, e290_400, e290_403, e290_405, m290, ↓reduceIte, qg_0, qg_1, qg_2, qg_3, qg_4, qg_5, qg_6, qg_7, qg_8, qg_9, qg_10, qg_11, qg_12, qg_13, not_true_eq_false, not_false_eq_true, Nat.reduceBEq, Bool.false_eq_true, ex1, ex3, ex4, exF, qfit_i, qfit_l, qfit_r, qfit_n, qfit_b0, qfit_b1, qcat_i, qcat_r, qcat_n, qcat_l, qroom_0, qroom_c, List.map_cons, List.map_nil, List.sum_cons, List.sum_nil, Nat.reduceAdd, Nat.reduceMul, Nat.reduceLT, Nat.reduceLeDiff, Nat.reduceEqDiff, Nat.reduceSub, decide_true, true_and, and_true, and_self, if_true, if_false, Option.toList_some, Option.toList_none, List.cons_append, List.nil_append, qsL, qlong, List.length_cons, List.length_nil, iN_L, vM1, vM2, exI, iN_add, iN_mul, iN_le, iN_lt, iN_eq, Nat.le_refl, qfN0, qfN1, gM_2, rM_57, n57, show ¬ (cnr bs i).length ≤ c by omega, xx, w1, w2]
  · have w1 : iZ (mnZ f c) ≤ iZ (f c) := by rw [iZ_le i1 i3]; omega
    rw [if_neg q1]
    by_cases q2 : mxZ f c < f c
    · have w2 : ¬ iZ (f c) ≤ iZ (mxZ f c) := by rw [iZ_le i3 i2]; omega
      rw [if_pos q2]
      simp (disch := first | assumption | omega) only [e290_0, e290_1, e290_2, e290_5, e290_8, e290_11, e290_12, e290_13, e290_14, e290_15, e290_18, e290_21, e290_24, e290_25, e290_26, e290_27, e290_28, e290_31, e290_34, e290_37, e290_38, e290_39, e290_41, e290_42, e290_44, e290_46, e290_47, e290_50, e290_51, e290_52, e290_53, e290_55, e290_58, e290_60, e290_62, e290_64, e290_65, e290_69, e290_70, e290_73, e290_74, e290_75, e290_78, e290_79, e290_80, e290_82, e290_84, e290_87, e290_89, e290_92, e290_93, e290_94, e290_96, e290_98, e290_101, e290_104, e290_106, e290_108, e290_109, e290_110, e290_112, e290_114, e290_117, e290_119, e290_122, e290_123, e290_124, e290_126, e290_128, e290_131, e290_134, e290_136, e290_138, e290_141, e290_144, e290_145, e290_148, e290_150, e290_151, e290_153, e290_154, e290_155, e290_156, e290_159, e290_161, e290_162, e290_164, e290_166, e290_167, e290_168, e290_169, e290_170, e290_171, e290_173, e290_174, e290_177, e290_179, e290_180, e290_181, e290_182, e290_184, e290_187, e290_190, e290_192, e290_195, e290_196, e290_199, e290_202, e290_203, e290_204, e290_206, e290_207, e290_209, e290_211, e290_212, e290_214, e290_215, e290_218, e290_219, e290_222, e290_223, e290_224, e290_226, e290_227, e290_230, e290_231, e290_232, e290_233, e290_234, e290_236, e290_237, e290_240, e290_241, e290_242, e290_244, e290_245, e290_248, e290_249, e290_250, e290_251, e290_252, e290_255, e290_256, e290_257, e290_258, e290_259, e290_261, e290_262, e290_265, e290_266, e290_267, e290_269, e290_270, e290_273, e290_274, e290_275, e290_276, e290_277, e290_280, e290_281, e290_282, e290_283, e290_284, e290_287, e290_288, e290_289, e290_290, e290_291, e290_293, e290_294, e290_297, e290_298, e290_299, e290_301, e290_302, e290_305, e290_306, e290_307, e290_308, e290_309, e290_312, e290_313, e290_314, e290_315, e290_316, e290_319, e290_320, e290_321, e290_322, e290_323, e290_325, e290_326, e290_328, e290_329, e290_331, e290_333, e290_334, e290_335, e290_338, e290_341, e290_343, e290_346, e290_347, e290_348, e290_350, e290_352, e290_354, e290_356, e290_358, e290_359, e290_362, e290_363, e290_364, e290_365, e290_366, e290_369, e290_370, e290_373, e290_374, e290_376, e290_379, e290_382, e290_384, e290_386, e290_389, e290_390, e290_393, e290_394, e290_395, e290_397, e290_400, e290_403, e290_405, m290, ↓reduceIte, qg_0, qg_1, qg_2, qg_3, qg_4, qg_5, qg_6, qg_7, qg_8, qg_9, qg_10, qg_11, qg_12, qg_13, not_true_eq_false, not_false_eq_true, Nat.reduceBEq, Bool.false_eq_true, ex1, ex3, ex4, exF, qfit_i, qfit_l, qfit_r, qfit_n, qfit_b0, qfit_b1, qcat_i, qcat_r, qcat_n, qcat_l, qroom_0, qroom_c, List.map_cons, List.map_nil, List.sum_cons, List.sum_nil, Nat.reduceAdd, Nat.reduceMul, Nat.reduceLT, Nat.reduceLeDiff, Nat.reduceEqDiff, Nat.reduceSub, decide_true, true_and, and_true, and_self, if_true, if_false, Option.toList_some, Option.toList_none, List.cons_append, List.nil_append, qsL, qlong, List.length_cons, List.length_nil, iN_L, vM1, vM2, exI, iN_add, iN_mul, iN_le, iN_lt, iN_eq, Nat.le_refl, qfN0, qfN1, gM_2, rM_57, n57, show ¬ (cnr bs i).length ≤ c by omega, xx, w1, w2]
    · have w2 : iZ (f c) ≤ iZ (mxZ f c) := by rw [iZ_le i3 i2]; omega
      rw [if_neg q2]
      simp (disch := first | assumption | omega) only [e290_0, e290_1, e290_2, e290_5, e290_8, e290_11, e290_12, e290_13, e290_14, e290_15, e290_18, e290_21, e290_24, e290_25, e290_26, e290_27, e290_28, e290_31, e290_34, e290_37, e290_38, e290_39, e290_41, e290_42, e290_44, e290_46, e290_47, e290_50, e290_51, e290_52, e290_53, e290_55, e290_58, e290_60, e290_62, e290_64, e290_65, e290_69, e290_70, e290_73, e290_74, e290_75, e290_78, e290_79, e290_80, e290_82, e290_84, e290_87, e290_89, e290_92, e290_93, e290_94, e290_96, e290_98, e290_101, e290_104, e290_106, e290_108, e290_109, e290_110, e290_112, e290_114, e290_117, e290_119, e290_122, e290_123, e290_124, e290_126, e290_128, e290_131, e290_134, e290_136, e290_138, e290_141, e290_144, e290_145, e290_148, e290_150, e290_151, e290_153, e290_154, e290_155, e290_156, e290_159, e290_161, e290_162, e290_164, e290_166, e290_167, e290_168, e290_169, e290_170, e290_171, e290_173, e290_174, e290_177, e290_179, e290_180, e290_181, e290_182, e290_184, e290_187, e290_190, e290_192, e290_195, e290_196, e290_199, e290_202, e290_203, e290_204, e290_206, e290_207, e290_209, e290_211, e290_212, e290_214, e290_215, e290_218, e290_219, e290_222, e290_223, e290_224, e290_226, e290_227, e290_230, e290_231, e290_232, e290_233, e290_234, e290_236, e290_237, e290_240, e290_241, e290_242, e290_244, e290_245, e290_248, e290_249, e290_250, e290_251, e290_252, e290_255, e290_256, e290_257, e290_258, e290_259, e290_261, e290_262, e290_265, e290_266, e290_267, e290_269, e290_270, e290_273, e290_274, e290_275, e290_276, e290_277, e290_280, e290_281, e290_282, e290_283, e290_284, e290_287, e290_288, e290_289, e290_290, e290_291, e290_293, e290_294, e290_297, e290_298, e290_299, e290_301, e290_302, e290_305, e290_306, e290_307, e290_308, e290_309, e290_312, e290_313, e290_314, e290_315, e290_316, e290_319, e290_320, e290_321, e290_322, e290_323, e290_325, e290_326, e290_328, e290_329, e290_331, e290_333, e290_334, e290_335, e290_338, e290_341, e290_343, e290_346, e290_347, e290_348, e290_350, e290_352, e290_354, e290_356, e290_358, e290_359, e290_362, e290_363, e290_364, e290_365, e290_366, e290_369, e290_370, e290_373, e290_374, e290_376, e290_379, e290_382, e290_384, e290_386, e290_389, e290_390, e290_393, e290_394, e290_395, e290_397, e290_400, e290_403, e290_405, m290, ↓reduceIte, qg_0, qg_1, qg_2, qg_3, qg_4, qg_5, qg_6, qg_7, qg_8, qg_9, qg_10, qg_11, qg_12, qg_13, not_true_eq_false, not_false_eq_true, Nat.reduceBEq, Bool.false_eq_true, ex1, ex3, ex4, exF, qfit_i, qfit_l, qfit_r, qfit_n, qfit_b0, qfit_b1, qcat_i, qcat_r, qcat_n, qcat_l, qroom_0, qroom_c, List.map_cons, List.map_nil, List.sum_cons, List.sum_nil, Nat.reduceAdd, Nat.reduceMul, Nat.reduceLT, Nat.reduceLeDiff, Nat.reduceEqDiff, Nat.reduceSub, decide_true, true_and, and_true, and_self, if_true, if_false, Option.toList_some, Option.toList_none, List.cons_append, List.nil_append, qsL, qlong, List.length_cons, List.length_nil, iN_L, vM1, vM2, exI, iN_add, iN_mul, iN_le, iN_lt, iN_eq, Nat.le_refl, qfN0, qfN1, gM_2, rM_57, n57, show ¬ (cnr bs i).length ≤ c by omega, xx, w1, w2]
theorem w_b {k : Nat} (B : BsM h bs) (hi' : i < bs.length) (hk : k < 4) : (-999 ≤ loW bs i k ∧ loW bs i k ≤ 999) ∧ (-999 ≤ hiW bs i k ∧ hiW bs i k ≤ 999) ∧ loW bs i k ≤ hiW bs i k := by
  have nc := B.nc hi'
  have fb : ∀ c, c < (cnr bs i).length → -999 ≤ lP (cnr bs i) c k ∧ lP (cnr bs i) c k ≤ 999 := fun c hc => ((B.corn hi').2.2 c hc k hk).2
  exact ⟨mnZ_b (fb 0 (by omega)) fb _ (Nat.le_refl _), mxZ_b (fb 0 (by omega)) fb _ (Nat.le_refl _), mn_mx _⟩
theorem wd_b {t k : Nat} (B : BsM h bs) (hi' : i < bs.length) (hk : k < 4) (ht : t ≤ 4) : 1 ≤ wdW bs i t k ∧ wdW bs i t k ≤ 7993 := by
  obtain ⟨a, b, c⟩ := w_b B hi' hk
  unfold wdW
  have h1 : 0 ≤ (t : Int) * (hiW bs i k - loW bs i k) := Int.mul_nonneg (by omega) (by omega)
  have h2 : (t : Int) * (hiW bs i k - loW bs i k) ≤ 4 * 1998 := Int.mul_le_mul (by omega) (by omega) (by omega) (by omega)
  omega
set_option maxRecDepth 100000 in
set_option maxHeartbeats 16000000 in
theorem bx_all {t z : Nat} (s : ShM h) (B : BsM h bs) (hi' : i < bs.length) (ht : t ≤ 4) : ∀ (w k : Nat) (h1 : qH) (x7 x8 x9 : Option Value), k + w = 4 → Ch [91, 92] [] h h1 → BxV h1 bs i t k → ∃ h' y7 y8 y9, (∀ R, qEv (d + 2) 0 qk_290 44 [some (.ref 55), some (.int (iN i)), some (.int (iN t)), some (.int (iN z)), some (.long (lZ (pdW bs i t k))), none, some (.int (iN k)), x7, x8, x9, none, none, none, none] [] h1 R ↔ qEv (d + 2) 0 qk_290 44 [some (.ref 55), some (.int (iN i)), some (.int (iN t)), some (.int (iN z)), some (.long (lZ (pdW bs i t 4))), none, some (.int (iN 4)), y7, y8, y9, none, none, none, none] [] h' R) ∧ Ch [91, 92] [] h h' ∧ BxV h' bs i t 4 := by
  have b24 := B.1
  have nc := B.nc hi'
  intro w
  induction w with
  | zero =>
    intro k h1 x7 x8 x9 hk c1 v
    have e : k = 4 := by omega
    subst e
    exact ⟨h1, x7, x8, x9, fun R => Iff.rfl, c1, v⟩
  | succ w ih =>
    intro k h1 x7 x8 x9 hkw c1 v
    have hk : k < 4 := by omega
    have s1 := c1.sh
    have B1 : BsM h1 bs := B.ch c1 (by decide) (by decide)
    have n57 := (B1.corn hi').1
    have li := (B1.corn hi').2.1
    have x0 := (B1.corn hi').2.2 0 (by omega) k hk
    have xx : ∀ R, qMC (d + 2) 194 [.ref 55, .int (iN i), .int (iN 0), .int (iN k)] h1 R ↔ R = (some (.int (iZ (lP (cnr bs i) 0 k))), h1) := fun R => by rw [s_x s1 (by omega), x0.1]
    obtain ⟨wl, wh, wle⟩ := w_b (k := k) B hi' hk
    have wd := wd_b (k := k) (t := t) B hi' hk ht
    obtain ⟨g1, e1⟩ : ∃ g1, g1 = sI h1 91 (upd (hi h1 91) k (iZ ((t : Int) * loW bs i k))) := ⟨_, rfl⟩
    have cg1 : Ch [91, 92] [] h g1 := c1.trans (by rw [e1]; exact Ch.rowI s1 (kM_91 s1) (by decide))
    have sg1 := cg1.sh
    obtain ⟨g2, e2⟩ : ∃ g2, g2 = sI g1 92 (upd (hi g1 92) k (iZ (wdW bs i t k))) := ⟨_, rfl⟩
    have cg2 : Ch [91, 92] [] h g2 := cg1.trans (by rw [e2]; exact Ch.rowI sg1 (kM_92 sg1) (by decide))
    have sg2 := cg2.sh
    have m1 : iN t * iZ (loW bs i k) = iZ ((t : Int) * loW bs i k) := by rw [← iZ_nat, iZ_mul]
    have m2 : iN t * (iZ (hiW bs i k) - iZ (loW bs i k)) + iN 1 = iZ (wdW bs i t k) := by rw [← iZ_nat, ← iZ_nat, iZ_sub, iZ_mul, iZ_add]; rfl
    have rd : hi g2 92 k = iZ (wdW bs i t k) := by rw [e2, hi_sI, if_pos rfl, upd_at, if_pos rfl]
    have tl : (iZ (wdW bs i t k)).toInt64 = lZ (wdW bs i t k) := iZ_long ⟨by omega, by omega⟩
    have w1 : qiast h1 91 (iN k) (iZ ((t : Int) * loW bs i k)) = some g1 := by rw [e1]; exact wM_91 s1 (by omega)
    have w2 : qiast g1 92 (iN k) (iZ (wdW bs i t k)) = some g2 := by rw [e2]; exact wM_92 sg1 (by omega)
    have v2 : BxV g2 bs i t (k + 1) := by
      intro j hj
      have a91 : hi g2 91 j = upd (hi h1 91) k (iZ ((t : Int) * loW bs i k)) j := by rw [e2, hi_sI, if_neg (by decide), e1, hi_sI, if_pos rfl]
      have a92 : hi g2 92 j = upd (hi h1 92) k (iZ (wdW bs i t k)) j := by rw [e2, hi_sI, if_pos rfl, e1, hi_sI, if_neg (by decide)]
      rw [a91, a92, upd_at, upd_at]
      by_cases e : j = k
      · rw [if_pos e, if_pos e, e]; exact ⟨rfl, rfl⟩
      · rw [if_neg e, if_neg e]; exact v j (by omega)
    obtain ⟨h', y7, y8, y9, r, c', v'⟩ := ih (k + 1) g2 (some (.int (iZ (loW bs i k)))) (some (.int (iZ (hiW bs i k)))) (some (.int (iN (cnr bs i).length))) (by omega) cg2 v2
    refine ⟨h', y7, y8, y9, fun R => ?_, c', v'⟩
    have r1 : qEv (d + 2) 0 qk_290 44 [some (.ref 55), some (.int (iN i)), some (.int (iN t)), some (.int (iN z)), some (.long (lZ (pdW bs i t k))), none, some (.int (iN k)), x7, x8, x9, none, none, none, none] [] h1 R ↔ qEv (d + 2) 0 qk_290 67 [some (.ref 55), some (.int (iN i)), some (.int (iN t)), some (.int (iN z)), some (.long (lZ (pdW bs i t k))), none, some (.int (iN k)), some (.int (iZ (lP (cnr bs i) 0 k))), some (.int (iZ (lP (cnr bs i) 0 k))), some (.int (iN 0)), none, none, none, none] [] h1 R := by
      rw [e290_44]
      simp (disch := first | assumption | omega) only [e290_0, e290_1, e290_2, e290_5, e290_8, e290_11, e290_12, e290_13, e290_14, e290_15, e290_18, e290_21, e290_24, e290_25, e290_26, e290_27, e290_28, e290_31, e290_34, e290_37, e290_38, e290_39, e290_41, e290_42, e290_46, e290_47, e290_50, e290_51, e290_52, e290_53, e290_55, e290_58, e290_60, e290_62, e290_64, e290_65, e290_69, e290_70, e290_73, e290_74, e290_75, e290_78, e290_79, e290_80, e290_82, e290_84, e290_87, e290_89, e290_92, e290_93, e290_94, e290_96, e290_98, e290_101, e290_104, e290_106, e290_108, e290_109, e290_110, e290_112, e290_114, e290_117, e290_119, e290_122, e290_123, e290_124, e290_126, e290_128, e290_131, e290_134, e290_136, e290_138, e290_141, e290_144, e290_145, e290_148, e290_150, e290_151, e290_153, e290_154, e290_155, e290_156, e290_159, e290_161, e290_162, e290_164, e290_166, e290_167, e290_168, e290_169, e290_170, e290_171, e290_173, e290_174, e290_177, e290_179, e290_180, e290_181, e290_182, e290_184, e290_187, e290_190, e290_192, e290_195, e290_196, e290_199, e290_202, e290_203, e290_204, e290_206, e290_207, e290_209, e290_211, e290_212, e290_214, e290_215, e290_218, e290_219, e290_222, e290_223, e290_224, e290_226, e290_227, e290_230, e290_231, e290_232, e290_233, e290_234, e290_236, e290_237, e290_240, e290_241, e290_242, e290_244, e290_245, e290_248, e290_249, e290_250, e290_251, e290_252, e290_255, e290_256, e290_257, e290_258, e290_259, e290_261, e290_262, e290_265, e290_266, e290_267, e290_269, e290_270, e290_273, e290_274, e290_275, e290_276, e290_277, e290_280, e290_281, e290_282, e290_283, e290_284, e290_287, e290_288, e290_289, e290_290, e290_291, e290_293, e290_294, e290_297, e290_298, e290_299, e290_301, e290_302, e290_305, e290_306, e290_307, e290_308, e290_309, e290_312, e290_313, e290_314, e290_315, e290_316, e290_319, e290_320, e290_321, e290_322, e290_323, e290_325, e290_326, e290_328, e290_329, e290_331, e290_333, e290_334, e290_335, e290_338, e290_341, e290_343, e290_346, e290_347, e290_348, e290_350, e290_352, e290_354, e290_356, e290_358, e290_359, e290_362, e290_363, e290_364, e290_365, e290_366, e290_369, e290_370, e290_373, e290_374, e290_376, e290_379, e290_382, e290_384, e290_386, e290_389, e290_390, e290_393, e290_394, e290_395, e290_397, e290_400, e290_403, e290_405, m290, ↓reduceIte, qg_0, qg_1, qg_2, qg_3, qg_4, qg_5, qg_6, qg_7, qg_8, qg_9, qg_10, qg_11, qg_12, qg_13, not_true_eq_false, not_false_eq_true, Nat.reduceBEq, Bool.false_eq_true, ex1, ex3, ex4, exF, qfit_i, qfit_l, qfit_r, qfit_n, qfit_b0, qfit_b1, qcat_i, qcat_r, qcat_n, qcat_l, qroom_0, qroom_c, List.map_cons, List.map_nil, List.sum_cons, List.sum_nil, Nat.reduceAdd, Nat.reduceMul, Nat.reduceLT, Nat.reduceLeDiff, Nat.reduceEqDiff, Nat.reduceSub, decide_true, true_and, and_true, and_self, if_true, if_false, Option.toList_some, Option.toList_none, List.cons_append, List.nil_append, qsL, qlong, List.length_cons, List.length_nil, iN_L, vM1, vM2, exI, iN_add, iN_mul, iN_le, iN_lt, iN_eq, Nat.le_refl, qfN0, qfN1, show ¬ 4 ≤ k by omega, xx]
    rw [r1, bx_min none none none none s1 B1 hi' hk R, ← r R, pdW, ← lZ_mul, e290_67]
    simp (disch := first | assumption | omega) only [e290_0, e290_1, e290_2, e290_5, e290_8, e290_11, e290_12, e290_13, e290_14, e290_15, e290_18, e290_21, e290_24, e290_25, e290_26, e290_27, e290_28, e290_31, e290_34, e290_37, e290_38, e290_39, e290_41, e290_42, e290_46, e290_47, e290_50, e290_51, e290_52, e290_53, e290_55, e290_58, e290_60, e290_62, e290_64, e290_65, e290_69, e290_70, e290_73, e290_74, e290_75, e290_78, e290_79, e290_80, e290_82, e290_84, e290_87, e290_89, e290_92, e290_93, e290_94, e290_96, e290_98, e290_101, e290_104, e290_106, e290_108, e290_109, e290_110, e290_112, e290_114, e290_117, e290_119, e290_122, e290_123, e290_124, e290_126, e290_128, e290_131, e290_134, e290_136, e290_138, e290_141, e290_144, e290_145, e290_148, e290_150, e290_151, e290_153, e290_154, e290_155, e290_156, e290_159, e290_161, e290_162, e290_164, e290_166, e290_167, e290_168, e290_169, e290_170, e290_171, e290_173, e290_174, e290_177, e290_179, e290_180, e290_181, e290_182, e290_184, e290_187, e290_190, e290_192, e290_195, e290_196, e290_199, e290_202, e290_203, e290_204, e290_206, e290_207, e290_209, e290_211, e290_212, e290_214, e290_215, e290_218, e290_219, e290_222, e290_223, e290_224, e290_226, e290_227, e290_230, e290_231, e290_232, e290_233, e290_234, e290_236, e290_237, e290_240, e290_241, e290_242, e290_244, e290_245, e290_248, e290_249, e290_250, e290_251, e290_252, e290_255, e290_256, e290_257, e290_258, e290_259, e290_261, e290_262, e290_265, e290_266, e290_267, e290_269, e290_270, e290_273, e290_274, e290_275, e290_276, e290_277, e290_280, e290_281, e290_282, e290_283, e290_284, e290_287, e290_288, e290_289, e290_290, e290_291, e290_293, e290_294, e290_297, e290_298, e290_299, e290_301, e290_302, e290_305, e290_306, e290_307, e290_308, e290_309, e290_312, e290_313, e290_314, e290_315, e290_316, e290_319, e290_320, e290_321, e290_322, e290_323, e290_325, e290_326, e290_328, e290_329, e290_331, e290_333, e290_334, e290_335, e290_338, e290_341, e290_343, e290_346, e290_347, e290_348, e290_350, e290_352, e290_354, e290_356, e290_358, e290_359, e290_362, e290_363, e290_364, e290_365, e290_366, e290_369, e290_370, e290_373, e290_374, e290_376, e290_379, e290_382, e290_384, e290_386, e290_389, e290_390, e290_393, e290_394, e290_395, e290_397, e290_400, e290_403, e290_405, m290, ↓reduceIte, qg_0, qg_1, qg_2, qg_3, qg_4, qg_5, qg_6, qg_7, qg_8, qg_9, qg_10, qg_11, qg_12, qg_13, not_true_eq_false, not_false_eq_true, Nat.reduceBEq, Bool.false_eq_true, ex1, ex3, ex4, exF, qfit_i, qfit_l, qfit_r, qfit_n, qfit_b0, qfit_b1, qcat_i, qcat_r, qcat_n, qcat_l, qroom_0, qroom_c, List.map_cons, List.map_nil, List.sum_cons, List.sum_nil, Nat.reduceAdd, Nat.reduceMul, Nat.reduceLT, Nat.reduceLeDiff, Nat.reduceEqDiff, Nat.reduceSub, decide_true, true_and, and_true, and_self, if_true, if_false, Option.toList_some, Option.toList_none, List.cons_append, List.nil_append, qsL, qlong, List.length_cons, List.length_nil, iN_L, vM1, vM2, exI, iN_le, Nat.le_refl, gM_2, rM_57, n57, gM_48, gM_49, m1, w1, m2, w2, rM_92, rd, tl, iN_add]
end BOX

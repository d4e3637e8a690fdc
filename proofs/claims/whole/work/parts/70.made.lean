/-! ===== THE REFERENCE: make ===== -/
section MADE
variable {d n f i D : Nat} {h : qH} {S : Nat → Nat} {Q : Nat → Nat → Int} {x1 : Int32}
/-- what make wants of what was found: the facets by their corners are apart, none empty, and lie as they must -/
def mkG (S : Nat → Nat) (n f D : Nat) : Prop := f ≤ 104 ∧ (∀ a b, a < b → b < f → sqz S n f a n ≠ sqz S n f b n) ∧ (∀ a, a < f → sqz S n f a n ≠ 0) ∧ ∀ F : Nat → Nat, (∀ k, k < f → ∃ a, a < f ∧ F k = sqz S n f a n) → (∀ a, a < f → ∃ k, k < f ∧ F k = sqz S n f a n) → ffG F f D
/-- a body as make leaves it -/
def madeB (h h' : qH) (i n f D : Nat) (S : Nat → Nat) (Q : Nat → Nat → Int) (x1 : Int32) (M : Nat → Nat) (T : Nat → Nat → Nat) (O : Nat → Nat) : Prop :=
  (hi h' 56 = upd (hi h 56) i (iN D) ∧ hi h' 57 = upd (hi h 57) i (iN (rk S n f n)) ∧ hi h' 58 = upd (hi h 58) i x1) ∧
  (∀ p, p < n → cor S n f p = true → ∀ t, t < 4 → hi h' 59 (64 * i + 4 * rk S n f p + t) = hi h 63 (4 * p + t)) ∧ (∀ x, x < 64 * i ∨ 64 * i + 64 ≤ x → hi h' 59 x = hi h 59 x) ∧
  FaceV h' i M T ∧ (M (D - 1) = f ∧ srt (T (D - 1)) f) ∧ (∀ K, D ≤ K → K < 4 → M K = 0) ∧
  (∀ j, j < f → T (D - 1) j = sqz S n f (O j) n ∧ O j < f ∧ ∀ t, t < 5 → hl h' 62 (520 * i + 5 * j + t) = lZ (Q (O j) t)) ∧ (∀ a, a < f → ∃ j, j < f ∧ O j = a) ∧
  (∀ K, K < D - 1 → srt (T K) (M K) ∧ ∀ y, (∃ k, k < M K ∧ T K k = y) ↔ Meet (T (D - 1)) f y ∧ (∀ j, j < f → y ≠ T (D - 1) j) ∧ kindOf y = K) ∧
  (∀ x, x < 4 * i ∨ 4 * i + 4 ≤ x → hi h' 60 x = hi h 60 x) ∧ (∀ x, x < 832 * i ∨ 832 * i + 832 ≤ x → hi h' 61 x = hi h 61 x) ∧ ∀ x, x < 520 * i ∨ 520 * i + 520 ≤ x → hl h' 62 x = hl h 62 x
set_option maxRecDepth 100000 in
set_option maxHeartbeats 16000000 in
theorem mk_B {h1 : qH} {nc : Nat} {x5 : Option Value} (s : ShM h1) (hd : mi h1 8 = iN D) (hi' : i < 24) : ∃ h2, (∀ R, qEv (d + 4) 0 qk_210 96 [some (.ref 55), some (.int x1), some (.int (iN i)), some (.int (iN nc)), some (.int (iN n)), x5, none] [] h1 R ↔ qEv (d + 4) 0 qk_210 150 [some (.ref 55), some (.int x1), some (.int (iN i)), some (.int (iN nc)), some (.int (iN 0)), x5, none] [] h2 R) ∧ Ch [56, 57, 58, 60] [] h1 h2 ∧ hi h2 56 = upd (hi h1 56) i (iN D) ∧ hi h2 57 = upd (hi h1 57) i (iN nc) ∧ hi h2 58 = upd (hi h1 58) i x1 ∧ (∀ K, K < 4 → hi h2 60 (4 * i + K) = iN 0) ∧ ∀ x, x < 4 * i ∨ 4 * i + 4 ≤ x → hi h2 60 x = hi h1 60 x := by
  obtain ⟨a1, e1⟩ : ∃ a, a = sI h1 56 (upd (hi h1 56) i (iN D)) := ⟨_, rfl⟩
  have c1 : Ch [56, 57, 58, 60] [] h1 a1 := by rw [e1]; exact Ch.rowI s (kM_56 s) (by decide)
  have s1 := c1.sh
  obtain ⟨a2, e2⟩ : ∃ a, a = sI a1 57 (upd (hi a1 57) i (iN nc)) := ⟨_, rfl⟩
  have c2' : Ch [56, 57, 58, 60] [] a1 a2 := by rw [e2]; exact Ch.rowI s1 (kM_57 s1) (by decide)
  have s2 := c2'.sh
  obtain ⟨a3, e3⟩ : ∃ a, a = sI a2 58 (upd (hi a2 58) i x1) := ⟨_, rfl⟩
  have c3' : Ch [56, 57, 58, 60] [] a2 a3 := by rw [e3]; exact Ch.rowI s2 (kM_58 s2) (by decide)
  have s3 := c3'.sh
  have k60 := kM_60 s3
  have s4 : ∀ G, ShM (sI a3 60 G) := fun G => s3.rowI k60
  have e60 : hi a3 60 = hi h1 60 := by rw [e3, hi_sI, if_neg (by decide), e2, hi_sI, if_neg (by decide), e1, hi_sI, if_neg (by decide)]
  refine ⟨sI a3 60 (fun x => if 4 * i ≤ x ∧ x < 4 * i + 4 then iN 0 else hi h1 60 x), fun R => ?_, ((c1.trans c2').trans c3').trans (Ch.rowI s3 k60 (by decide)), ?_, ?_, ?_, ?_, ?_⟩
  · have r0 : qEv (d + 4) 0 qk_210 96 [some (.ref 55), some (.int x1), some (.int (iN i)), some (.int (iN nc)), some (.int (iN n)), x5, none] [] h1 R ↔ qEv (d + 4) 0 qk_210 123 [some (.ref 55), some (.int x1), some (.int (iN i)), some (.int (iN nc)), some (.int (iN 0)), x5, none] [] a3 R := by
      simp (disch := first | assumption | omega) only [e210_0, e210_1, e210_4, e210_5, e210_6, e210_7, e210_8, e210_10, e210_12, e210_13, e210_16, e210_19, e210_20, e210_23, e210_25, e210_26, e210_27, e210_28, e210_30, e210_33, e210_36, e210_37, e210_40, e210_42, e210_43, e210_44, e210_45, e210_47, e210_49, e210_50, e210_53, e210_54, e210_57, e210_59, e210_60, e210_61, e210_62, e210_63, e210_64, e210_65, e210_67, e210_68, e210_69, e210_72, e210_73, e210_75, e210_76, e210_78, e210_79, e210_80, e210_81, e210_84, e210_87, e210_90, e210_93, e210_96, e210_97, e210_100, e210_101, e210_102, e210_105, e210_106, e210_107, e210_110, e210_111, e210_112, e210_113, e210_114, e210_117, e210_118, e210_119, e210_120, e210_121, e210_125, e210_126, e210_129, e210_130, e210_133, e210_134, e210_135, e210_136, e210_138, e210_139, e210_140, e210_141, e210_144, e210_147, e210_148, e210_152, e210_153, e210_156, e210_159, e210_160, e210_162, e210_163, e210_165, e210_167, e210_168, e210_171, e210_174, e210_176, e210_177, e210_180, e210_182, e210_183, e210_185, e210_186, e210_187, e210_188, e210_189, e210_192, e210_193, e210_196, e210_198, e210_199, e210_202, e210_203, e210_204, e210_207, e210_209, e210_210, e210_211, e210_214, e210_215, e210_216, e210_218, e210_221, e210_224, e210_225, e210_226, e210_228, e210_230, e210_233, e210_236, e210_239, e210_240, e210_241, e210_244, e210_245, e210_246, e210_249, e210_250, e210_251, e210_254, e210_255, m210, ↓reduceIte, qg_0, qg_1, qg_2, qg_3, qg_4, qg_5, qg_6, qg_7, qg_8, qg_9, qg_10, qg_11, qg_12, qg_13, not_true_eq_false, not_false_eq_true, Nat.reduceBEq, Bool.false_eq_true, ex1, ex3, ex4, exF, qfit_i, qfit_l, qfit_r, qfit_n, qfit_b0, qfit_b1, qcat_i, qcat_r, qcat_n, qcat_l, qroom_0, qroom_c, List.map_cons, List.map_nil, List.sum_cons, List.sum_nil, Nat.reduceAdd, Nat.reduceMul, Nat.reduceLT, Nat.reduceLeDiff, Nat.reduceEqDiff, Nat.reduceSub, decide_true, true_and, and_true, and_self, if_true, if_false, Option.toList_some, Option.toList_none, List.cons_append, List.nil_append, qsL, qlong, List.length_cons, List.length_nil, iN_L, gM_1, gM_2, gM_3, gM_8, hd, wM_56, wM_57, wM_58, ← e1, ← e2, ← e3]
    rw [r0]
    have H0 : a3 = sI a3 60 (fun x => if 4 * i ≤ x ∧ x < 4 * i + 0 then iN 0 else hi h1 60 x) := by
      have : (fun x => if 4 * i ≤ x ∧ x < 4 * i + 0 then iN 0 else hi h1 60 x) = hi a3 60 := by funext x; rw [if_neg (by omega), e60]
      rw [this, sI_id k60]
    rw [show qEv (d + 4) 0 qk_210 123 [some (.ref 55), some (.int x1), some (.int (iN i)), some (.int (iN nc)), some (.int (iN 0)), x5, none] [] a3 R ↔ qEv (d + 4) 0 qk_210 123 [some (.ref 55), some (.int x1), some (.int (iN i)), some (.int (iN nc)), some (.int (iN 0)), x5, none] [] (sI a3 60 (fun x => if 4 * i ≤ x ∧ x < 4 * i + 0 then iN 0 else hi h1 60 x)) R by rw [← H0]]
    refine Iff.trans (loop_up (n := 4) (L := fun k => [some (.ref 55), some (.int x1), some (.int (iN i)), some (.int (iN nc)), some (.int (iN k)), x5, none]) (H := fun k => sI a3 60 (fun x => if 4 * i ≤ x ∧ x < 4 * i + k then iN 0 else hi h1 60 x)) ?_) ?_
    · intro k hk
      try dsimp only
      rw [e210_123]
      have eq1 : upd (fun x => if 4 * i ≤ x ∧ x < 4 * i + k then iN 0 else hi h1 60 x) (4 * i + k) (iN 0) = fun x => if 4 * i ≤ x ∧ x < 4 * i + (k + 1) then iN 0 else hi h1 60 x := by
        funext x
        rw [upd_at]
        by_cases g1 : x = 4 * i + k
        · subst g1; rw [if_pos rfl, if_pos (by omega)]
        · rw [if_neg g1]
          by_cases g2 : 4 * i ≤ x ∧ x < 4 * i + k
          · rw [if_pos g2, if_pos (by omega)]
          · rw [if_neg g2, if_neg (by omega)]
      simp (disch := first | assumption | omega | exact s4 _) only [e210_0, e210_1, e210_4, e210_5, e210_6, e210_7, e210_8, e210_10, e210_12, e210_13, e210_16, e210_19, e210_20, e210_23, e210_25, e210_26, e210_27, e210_28, e210_30, e210_33, e210_36, e210_37, e210_40, e210_42, e210_43, e210_44, e210_45, e210_47, e210_49, e210_50, e210_53, e210_54, e210_57, e210_59, e210_60, e210_61, e210_62, e210_63, e210_64, e210_65, e210_67, e210_68, e210_69, e210_72, e210_73, e210_75, e210_76, e210_78, e210_79, e210_80, e210_81, e210_84, e210_87, e210_90, e210_93, e210_96, e210_97, e210_100, e210_101, e210_102, e210_105, e210_106, e210_107, e210_110, e210_111, e210_112, e210_113, e210_114, e210_117, e210_118, e210_119, e210_120, e210_121, e210_125, e210_126, e210_129, e210_130, e210_133, e210_134, e210_135, e210_136, e210_138, e210_139, e210_140, e210_141, e210_144, e210_147, e210_148, e210_152, e210_153, e210_156, e210_159, e210_160, e210_162, e210_163, e210_165, e210_167, e210_168, e210_171, e210_174, e210_176, e210_177, e210_180, e210_182, e210_183, e210_185, e210_186, e210_187, e210_188, e210_189, e210_192, e210_193, e210_196, e210_198, e210_199, e210_202, e210_203, e210_204, e210_207, e210_209, e210_210, e210_211, e210_214, e210_215, e210_216, e210_218, e210_221, e210_224, e210_225, e210_226, e210_228, e210_230, e210_233, e210_236, e210_239, e210_240, e210_241, e210_244, e210_245, e210_246, e210_249, e210_250, e210_251, e210_254, e210_255, m210, ↓reduceIte, qg_0, qg_1, qg_2, qg_3, qg_4, qg_5, qg_6, qg_7, qg_8, qg_9, qg_10, qg_11, qg_12, qg_13, not_true_eq_false, not_false_eq_true, Nat.reduceBEq, Bool.false_eq_true, ex1, ex3, ex4, exF, qfit_i, qfit_l, qfit_r, qfit_n, qfit_b0, qfit_b1, qcat_i, qcat_r, qcat_n, qcat_l, qroom_0, qroom_c, List.map_cons, List.map_nil, List.sum_cons, List.sum_nil, Nat.reduceAdd, Nat.reduceMul, Nat.reduceLT, Nat.reduceLeDiff, Nat.reduceEqDiff, Nat.reduceSub, decide_true, true_and, and_true, and_self, if_true, if_false, Option.toList_some, Option.toList_none, List.cons_append, List.nil_append, qsL, qlong, List.length_cons, List.length_nil, iN_L, iN_le, show ¬ 4 ≤ k by omega, gM_5, iN_mul, iN_add, wM_60, hi_sI, sI_sI, eq1, exI]
    · try dsimp only
      rw [e210_123]
      simp (disch := first | assumption | omega | exact s4 _) only [e210_0, e210_1, e210_4, e210_5, e210_6, e210_7, e210_8, e210_10, e210_12, e210_13, e210_16, e210_19, e210_20, e210_23, e210_25, e210_26, e210_27, e210_28, e210_30, e210_33, e210_36, e210_37, e210_40, e210_42, e210_43, e210_44, e210_45, e210_47, e210_49, e210_50, e210_53, e210_54, e210_57, e210_59, e210_60, e210_61, e210_62, e210_63, e210_64, e210_65, e210_67, e210_68, e210_69, e210_72, e210_73, e210_75, e210_76, e210_78, e210_79, e210_80, e210_81, e210_84, e210_87, e210_90, e210_93, e210_96, e210_97, e210_100, e210_101, e210_102, e210_105, e210_106, e210_107, e210_110, e210_111, e210_112, e210_113, e210_114, e210_117, e210_118, e210_119, e210_120, e210_121, e210_125, e210_126, e210_129, e210_130, e210_133, e210_134, e210_135, e210_136, e210_138, e210_139, e210_140, e210_141, e210_144, e210_147, e210_148, e210_152, e210_153, e210_156, e210_159, e210_160, e210_162, e210_163, e210_165, e210_167, e210_168, e210_171, e210_174, e210_176, e210_177, e210_180, e210_182, e210_183, e210_185, e210_186, e210_187, e210_188, e210_189, e210_192, e210_193, e210_196, e210_198, e210_199, e210_202, e210_203, e210_204, e210_207, e210_209, e210_210, e210_211, e210_214, e210_215, e210_216, e210_218, e210_221, e210_224, e210_225, e210_226, e210_228, e210_230, e210_233, e210_236, e210_239, e210_240, e210_241, e210_244, e210_245, e210_246, e210_249, e210_250, e210_251, e210_254, e210_255, m210, ↓reduceIte, qg_0, qg_1, qg_2, qg_3, qg_4, qg_5, qg_6, qg_7, qg_8, qg_9, qg_10, qg_11, qg_12, qg_13, not_true_eq_false, not_false_eq_true, Nat.reduceBEq, Bool.false_eq_true, ex1, ex3, ex4, exF, qfit_i, qfit_l, qfit_r, qfit_n, qfit_b0, qfit_b1, qcat_i, qcat_r, qcat_n, qcat_l, qroom_0, qroom_c, List.map_cons, List.map_nil, List.sum_cons, List.sum_nil, Nat.reduceAdd, Nat.reduceMul, Nat.reduceLT, Nat.reduceLeDiff, Nat.reduceEqDiff, Nat.reduceSub, decide_true, true_and, and_true, and_self, if_true, if_false, Option.toList_some, Option.toList_none, List.cons_append, List.nil_append, qsL, qlong, List.length_cons, List.length_nil, iN_L, iN_le, Nat.le_refl]
  · rw [hi_sI, if_neg (by decide), e3, hi_sI, if_neg (by decide), e2, hi_sI, if_neg (by decide), e1, hi_sI, if_pos rfl]
  · rw [hi_sI, if_neg (by decide), e3, hi_sI, if_neg (by decide), e2, hi_sI, if_pos rfl, e1, hi_sI, if_neg (by decide)]
  · rw [hi_sI, if_neg (by decide), e3, hi_sI, if_pos rfl, e2, hi_sI, if_neg (by decide), e1, hi_sI, if_neg (by decide)]
  · intro K hK
    rw [hi_sI, if_pos rfl]
    exact if_pos (by omega)
  · intro x hx
    rw [hi_sI, if_pos rfl]
    exact if_neg (by omega)
set_option maxRecDepth 100000 in
set_option maxHeartbeats 16000000 in
theorem s_make (s : ShM h) (hb : mi h 0 = iN i) (hi' : i < 24) (hn : mi h 9 = iN n) (h16 : n ≤ 16) (hd : mi h 8 = iN D) (hD : 2 ≤ D ∧ D ≤ 4) (fd : FdP h f S Q) (g : mkG S n f D) :
    ∃ h' M T O, (∀ R, qMC (d + 5) 210 [.ref 55, .int x1] h R ↔ R = (some (.int (iN i)), h')) ∧ Ch [56, 57, 58, 59, 60, 61, 62, 68, 69] [0] h h' ∧ mi h' 0 = iN (i + 1) ∧ madeB h h' i n f D S Q x1 M T O := by
  obtain ⟨hf, hne, hnz, hG⟩ := g
  have r0 : ∀ R, qMC (d + 5) 210 [.ref 55, .int x1] h R ↔ qEv (d + 4) 0 qk_210 10 [some (.ref 55), some (.int x1), some (.int (iN i)), some (.int (iN 0)), some (.int (iN 0)), none, none] [] h R := by
    intro R
    simp (disch := first | assumption | omega) only [e210_0, e210_1, e210_4, e210_5, e210_6, e210_7, e210_8, e210_12, e210_13, e210_16, e210_19, e210_20, e210_23, e210_25, e210_26, e210_27, e210_28, e210_30, e210_33, e210_36, e210_37, e210_40, e210_42, e210_43, e210_44, e210_45, e210_47, e210_49, e210_50, e210_53, e210_54, e210_57, e210_59, e210_60, e210_61, e210_62, e210_63, e210_64, e210_65, e210_67, e210_68, e210_69, e210_72, e210_73, e210_75, e210_76, e210_78, e210_79, e210_80, e210_81, e210_84, e210_87, e210_90, e210_93, e210_96, e210_97, e210_100, e210_101, e210_102, e210_105, e210_106, e210_107, e210_110, e210_111, e210_112, e210_113, e210_114, e210_117, e210_118, e210_119, e210_120, e210_121, e210_123, e210_125, e210_126, e210_129, e210_130, e210_133, e210_134, e210_135, e210_136, e210_138, e210_139, e210_140, e210_141, e210_144, e210_147, e210_148, e210_150, e210_152, e210_153, e210_156, e210_159, e210_160, e210_162, e210_163, e210_165, e210_167, e210_168, e210_171, e210_174, e210_176, e210_177, e210_180, e210_182, e210_183, e210_185, e210_186, e210_187, e210_188, e210_189, e210_192, e210_193, e210_196, e210_198, e210_199, e210_202, e210_203, e210_204, e210_207, e210_209, e210_210, e210_211, e210_214, e210_215, e210_216, e210_218, e210_221, e210_224, e210_225, e210_226, e210_228, e210_230, e210_233, e210_236, e210_239, e210_240, e210_241, e210_244, e210_245, e210_246, e210_249, e210_250, e210_251, e210_254, e210_255, m210, ↓reduceIte, qg_0, qg_1, qg_2, qg_3, qg_4, qg_5, qg_6, qg_7, qg_8, qg_9, qg_10, qg_11, qg_12, qg_13, not_true_eq_false, not_false_eq_true, Nat.reduceBEq, Bool.false_eq_true, ex1, ex3, ex4, exF, qfit_i, qfit_l, qfit_r, qfit_n, qfit_b0, qfit_b1, qcat_i, qcat_r, qcat_n, qcat_l, qroom_0, qroom_c, List.map_cons, List.map_nil, List.sum_cons, List.sum_nil, Nat.reduceAdd, Nat.reduceMul, Nat.reduceLT, Nat.reduceLeDiff, Nat.reduceEqDiff, Nat.reduceSub, decide_true, true_and, and_true, and_self, if_true, if_false, Option.toList_some, Option.toList_none, List.cons_append, List.nil_append, qsL, qlong, List.length_cons, List.length_nil, iN_L, gM_0, hb]
  obtain ⟨L1, h1, ⟨x5, rfl, q5, ch1, pl, xs, out⟩, r1⟩ := loop_inv (d := d + 4) (rt := 0) (K := qk_210) (pc := 10) (P := mkA h i n f S x1) (n := n) (mk_step hn h16 hi' fd (by omega)) (L := [some (.ref 55), some (.int x1), some (.int (iN i)), some (.int (iN 0)), some (.int (iN 0)), none, none]) (h := h) ⟨none, rfl, rfl, Ch.refl s, fun p hp => absurd hp (Nat.not_lt_zero p), fun p hp => absurd hp (Nat.not_lt_zero p), fun _ _ => rfl⟩
  have rle : rk S n f n ≤ n := cntN_le
  have s1 := ch1.sh
  have n1 : mi h1 9 = iN n := (ch1.mi (by decide)).trans hn
  have d1 : mi h1 8 = iN D := (ch1.mi (by decide)).trans hd
  have b1 : mi h1 0 = iN i := (ch1.mi (by decide)).trans hb
  have fd1 : FdP h1 f S Q := fd.ch ch1 (by decide) (by decide) (by decide)
  have r1' : ∀ R, qEv (d + 4) 0 qk_210 10 [some (.ref 55), some (.int x1), some (.int (iN i)), some (.int (iN (rk S n f n))), some (.int (iN n)), x5, none] [] h1 R ↔ qEv (d + 4) 0 qk_210 96 [some (.ref 55), some (.int x1), some (.int (iN i)), some (.int (iN (rk S n f n))), some (.int (iN n)), x5, none] [] h1 R := by
    intro R
    rw [e210_10]
    simp (disch := first | assumption | omega) only [e210_0, e210_1, e210_4, e210_5, e210_6, e210_7, e210_8, e210_12, e210_13, e210_16, e210_19, e210_20, e210_23, e210_25, e210_26, e210_27, e210_28, e210_30, e210_33, e210_36, e210_37, e210_40, e210_42, e210_43, e210_44, e210_45, e210_47, e210_49, e210_50, e210_53, e210_54, e210_57, e210_59, e210_60, e210_61, e210_62, e210_63, e210_64, e210_65, e210_67, e210_68, e210_69, e210_72, e210_73, e210_75, e210_76, e210_78, e210_79, e210_80, e210_81, e210_84, e210_87, e210_90, e210_93, e210_97, e210_100, e210_101, e210_102, e210_105, e210_106, e210_107, e210_110, e210_111, e210_112, e210_113, e210_114, e210_117, e210_118, e210_119, e210_120, e210_121, e210_123, e210_125, e210_126, e210_129, e210_130, e210_133, e210_134, e210_135, e210_136, e210_138, e210_139, e210_140, e210_141, e210_144, e210_147, e210_148, e210_150, e210_152, e210_153, e210_156, e210_159, e210_160, e210_162, e210_163, e210_165, e210_167, e210_168, e210_171, e210_174, e210_176, e210_177, e210_180, e210_182, e210_183, e210_185, e210_186, e210_187, e210_188, e210_189, e210_192, e210_193, e210_196, e210_198, e210_199, e210_202, e210_203, e210_204, e210_207, e210_209, e210_210, e210_211, e210_214, e210_215, e210_216, e210_218, e210_221, e210_224, e210_225, e210_226, e210_228, e210_230, e210_233, e210_236, e210_239, e210_240, e210_241, e210_244, e210_245, e210_246, e210_249, e210_250, e210_251, e210_254, e210_255, m210, ↓reduceIte, qg_0, qg_1, qg_2, qg_3, qg_4, qg_5, qg_6, qg_7, qg_8, qg_9, qg_10, qg_11, qg_12, qg_13, not_true_eq_false, not_false_eq_true, Nat.reduceBEq, Bool.false_eq_true, ex1, ex3, ex4, exF, qfit_i, qfit_l, qfit_r, qfit_n, qfit_b0, qfit_b1, qcat_i, qcat_r, qcat_n, qcat_l, qroom_0, qroom_c, List.map_cons, List.map_nil, List.sum_cons, List.sum_nil, Nat.reduceAdd, Nat.reduceMul, Nat.reduceLT, Nat.reduceLeDiff, Nat.reduceEqDiff, Nat.reduceSub, decide_true, true_and, and_true, and_self, if_true, if_false, Option.toList_some, Option.toList_none, List.cons_append, List.nil_append, qsL, qlong, List.length_cons, List.length_nil, iN_L, gM_9, n1, iN_le, Nat.le_refl]
  obtain ⟨h2, r2, ch2, e56, e57, e58, z60, o60⟩ := mk_B (d := d) (n := n) (x1 := x1) (nc := rk S n f n) (x5 := x5) s1 d1 hi'
  have s2 := ch2.sh
  have n2 : mi h2 9 = iN n := (ch2.mi (by decide)).trans n1
  have d2 : mi h2 8 = iN D := (ch2.mi (by decide)).trans d1
  have b2 : mi h2 0 = iN i := (ch2.mi (by decide)).trans b1
  have fd2 : FdP h2 f S Q := fd1.ch ch2 (by decide) (by decide) (by decide)
  have pl2 : ∀ p, p < n → hi h2 68 p = if cor S n f p = true then iN (rk S n f p) else -iN 1 := by rw [ch2.hi (by decide) (by decide)]; exact pl
  have F0 : mkF h2 i n f D S Q 0 (fun _ => 0) (fun _ => 0) h2 := ⟨Ch.refl s2, by rw [show 4 * i + D - 1 = 4 * i + (D - 1) by omega]; exact z60 (D - 1) (by omega), fun a b _ hb => absurd hb (Nat.not_lt_zero b), fun j hj => absurd hj (Nat.not_lt_zero j), fun a ha => absurd ha (Nat.not_lt_zero a), fun _ _ => rfl, fun _ _ => rfl, fun _ _ => rfl⟩
  obtain ⟨L3, h3, ⟨TF, O, x5', x6', rfl, q5', ch3, fm, st, row, sur, p60, p61, p62⟩, r3⟩ := loop_inv (d := d + 4) (rt := 0) (K := qk_210) (pc := 150) (P := mkFP h2 i n f D S Q x1 (iN (rk S n f n))) (n := f) (mk_fstep n2 h16 hi' d2 hD fd2 hf pl2 hne) (L := [some (.ref 55), some (.int x1), some (.int (iN i)), some (.int (iN (rk S n f n))), some (.int (iN 0)), x5, none]) (h := h2) ⟨fun _ => 0, fun _ => 0, x5, none, rfl, q5, F0⟩
  have s3 := ch3.sh
  have b3 : mi h3 0 = iN i := (ch3.mi (by decide)).trans b2
  have fd3 : FdP h3 f S Q := fd2.ch ch3 (by decide) (by decide) (by decide)
  have d3 : hi h3 56 i = iN D := by rw [ch3.hi (by decide) (by decide), e56, upd_at, if_pos rfl]
  obtain ⟨M0, eM0⟩ : ∃ M : Nat → Nat, M = fun K => if K = D - 1 then f else 0 := ⟨_, rfl⟩
  obtain ⟨T0, eT0⟩ : ∃ T : Nat → Nat → Nat, T = fun _ => TF := ⟨_, rfl⟩
  have v3 : FaceV h3 i M0 T0 := by
    intro K hK
    rw [eM0, eT0]
    show hi h3 60 (4 * i + K) = iN (if K = D - 1 then f else 0) ∧ (if K = D - 1 then f else 0) ≤ 208 ∧ ∀ k, k < (if K = D - 1 then f else 0) → hi h3 61 (208 * (4 * i + K) + k) = iN (TF k) ∧ TF k < 65536
    by_cases e : K = D - 1
    · rw [if_pos e]
      refine ⟨by rw [show 4 * i + K = 4 * i + D - 1 by omega]; exact fm, by omega, fun k hk => ?_⟩
      rw [show 4 * i + K = 4 * i + D - 1 by omega]; exact (row k hk).1
    · rw [if_neg e]
      refine ⟨by rw [p60 _ (by omega)]; exact z60 K hK, by omega, fun k hk => absurd hk (Nat.not_lt_zero k)⟩
  have mD : M0 (D - 1) = f := by rw [eM0]; exact if_pos rfl
  have tD : ∀ k, k < f → T0 (D - 1) k = TF k := fun k _ => by rw [eT0]
  have fG : ffG TF f D := hG TF (fun k hk => ⟨O k, (row k hk).2.2.1, (row k hk).2.1⟩) (fun a ha => by
    obtain ⟨j, h7, h8⟩ := sur a ha
    exact ⟨j, h7, by rw [(row j h7).2.1, h8]⟩)
  obtain ⟨h4, M, T, r4, ch4, oo, mZ, v4, ⟨n4, t4⟩, low⟩ := s_findFaces (d := d) (F := TF) s3 hi' hD d3 hf (fun k hk => ⟨(row k hk).1.2, by rw [(row k hk).2.1]; exact hnz _ (row k hk).2.2.1⟩) fG v3 (fun K hK => by rw [eM0]; exact if_neg (by omega)) mD tD
  have s4 := ch4.sh
  have b4 : mi h4 0 = iN i := (ch4.mi (by decide)).trans b3
  have c5 : Ch [56, 57, 58, 59, 60, 61, 62, 68, 69] [0] h4 (mI h4 0 (iN (i + 1))) := Ch.setI s4 (by decide) (by decide)
  have c14 : Ch [56, 57, 58, 59, 60, 61, 62, 68, 69] [0] h h4 := (((ch1.mono (by decide) (by decide)).trans (ch2.mono (by decide) (by decide))).trans (ch3.mono (by decide) (by decide))).trans (ch4.mono (by decide) (by decide))
  have hT4 : ∀ k, k < f → T (D - 1) k = TF k := t4
  refine ⟨mI h4 0 (iN (i + 1)), M, T, O, fun R => ?_, c14.trans c5, by rw [mi_mI, if_pos rfl], ?_⟩
  · rw [r0 R, r1 R, r1' R, r2 R, r3 R, e210_150]
    have r4' : ∀ R, qMC (d + 4) 213 [.ref 55, .int (iN i)] h3 R ↔ R = (none, h4) := r4
    simp (disch := first | assumption | omega) only [e210_0, e210_1, e210_4, e210_5, e210_6, e210_7, e210_8, e210_10, e210_12, e210_13, e210_16, e210_19, e210_20, e210_23, e210_25, e210_26, e210_27, e210_28, e210_30, e210_33, e210_36, e210_37, e210_40, e210_42, e210_43, e210_44, e210_45, e210_47, e210_49, e210_50, e210_53, e210_54, e210_57, e210_59, e210_60, e210_61, e210_62, e210_63, e210_64, e210_65, e210_67, e210_68, e210_69, e210_72, e210_73, e210_75, e210_76, e210_78, e210_79, e210_80, e210_81, e210_84, e210_87, e210_90, e210_93, e210_96, e210_97, e210_100, e210_101, e210_102, e210_105, e210_106, e210_107, e210_110, e210_111, e210_112, e210_113, e210_114, e210_117, e210_118, e210_119, e210_120, e210_121, e210_123, e210_125, e210_126, e210_129, e210_130, e210_133, e210_134, e210_135, e210_136, e210_138, e210_139, e210_140, e210_141, e210_144, e210_147, e210_148, e210_152, e210_153, e210_156, e210_159, e210_160, e210_162, e210_163, e210_165, e210_167, e210_168, e210_171, e210_174, e210_176, e210_177, e210_180, e210_182, e210_183, e210_185, e210_186, e210_187, e210_188, e210_189, e210_192, e210_193, e210_196, e210_198, e210_199, e210_202, e210_203, e210_204, e210_207, e210_209, e210_210, e210_211, e210_214, e210_215, e210_216, e210_218, e210_221, e210_224, e210_225, e210_226, e210_228, e210_230, e210_233, e210_236, e210_239, e210_240, e210_241, e210_244, e210_245, e210_246, e210_249, e210_250, e210_251, e210_254, e210_255, m210, ↓reduceIte, qg_0, qg_1, qg_2, qg_3, qg_4, qg_5, qg_6, qg_7, qg_8, qg_9, qg_10, qg_11, qg_12, qg_13, not_true_eq_false, not_false_eq_true, Nat.reduceBEq, Bool.false_eq_true, ex1, ex3, ex4, exF, qfit_i, qfit_l, qfit_r, qfit_n, qfit_b0, qfit_b1, qcat_i, qcat_r, qcat_n, qcat_l, qroom_0, qroom_c, List.map_cons, List.map_nil, List.sum_cons, List.sum_nil, Nat.reduceAdd, Nat.reduceMul, Nat.reduceLT, Nat.reduceLeDiff, Nat.reduceEqDiff, Nat.reduceSub, decide_true, true_and, and_true, and_self, if_true, if_false, Option.toList_some, Option.toList_none, List.cons_append, List.nil_append, qsL, qlong, List.length_cons, List.length_nil, iN_L, gM_11, fd3.1, iN_le, Nat.le_refl, vM1, vM2, r4', gM_0, b4, iN_add, pM_0]
  · have m4 : ∀ b, hi (mI h4 0 (iN (i + 1))) b = hi h4 b := fun b => hi_mI s4
    have l4 : ∀ b, hl (mI h4 0 (iN (i + 1))) b = hl h4 b := fun b => hl_mI s4
    have q59 : hi h4 59 = hi h1 59 := by rw [ch4.hi (by decide) (by decide), ch3.hi (by decide) (by decide), ch2.hi (by decide) (by decide)]
    refine ⟨⟨?_, ?_, ?_⟩, ?_, ?_, ?_, ⟨n4, ?_⟩, ?_, ?_, sur, ?_, ?_, ?_, ?_⟩
    · rw [m4, ch4.hi (by decide) (by decide), ch3.hi (by decide) (by decide), e56, ch1.hi (by decide) (by decide)]
    · rw [m4, ch4.hi (by decide) (by decide), ch3.hi (by decide) (by decide), e57, ch1.hi (by decide) (by decide)]
    · rw [m4, ch4.hi (by decide) (by decide), ch3.hi (by decide) (by decide), e58, ch1.hi (by decide) (by decide)]
    · rw [m4, q59]; exact xs
    · intro x hx
      rw [m4, q59]; exact out x (by omega)
    · intro K hK
      rw [m4, m4]; exact v4 K hK
    · intro a b h7 h8
      rw [hT4 a (by omega), hT4 b h8]; exact st a b h7 h8
    · intro K h7 h8
      rw [mZ K h7 h8, eM0]; exact if_neg (by omega)
    · intro j hj
      rw [hT4 j hj, l4, ch4.hl (by decide) (by decide)]
      exact ⟨(row j hj).2.1, (row j hj).2.2.1, (row j hj).2.2.2⟩
    · intro K hK
      have hl1 := low K hK
      refine ⟨hl1.1, fun y => (hl1.2 y).trans ?_⟩
      have eM : Meet TF f y ↔ Meet (T (D - 1)) f y := by
        have ea : ∀ j, j < f → around TF y j = around (T (D - 1)) y j := fun j hj => by unfold around; rw [hT4 j hj]
        have ec : ∀ k, k ≤ f → clo TF y k = clo (T (D - 1)) y k := by
          intro k
          induction k with
          | zero => intro _; rfl
          | succ k ih =>
            intro hk
            rw [clo, clo, ea k (by omega), ih (by omega), hT4 k (by omega)]
        unfold Meet
        rw [ec f (Nat.le_refl _)]
        refine and_congr_right fun _ => and_congr_left fun _ => ?_
        exact ⟨fun ⟨j, h7, h8⟩ => ⟨j, h7, by rw [← ea j h7]; exact h8⟩, fun ⟨j, h7, h8⟩ => ⟨j, h7, by rw [ea j h7]; exact h8⟩⟩
      rw [eM]
      refine and_congr_right fun _ => and_congr_left fun _ => ?_
      exact ⟨fun z j hj => by rw [hT4 j hj]; exact z j hj, fun z j hj => by rw [← hT4 j hj]; exact z j hj⟩
    · intro x hx
      rw [m4, oo.1 x (by omega), p60 x (by omega), o60 x hx, ch1.hi (by decide) (by decide)]
    · intro x hx
      rw [m4, oo.2 x hx, p61 x (by omega), ch2.hi (by decide) (by decide), ch1.hi (by decide) (by decide)]
    · intro x hx
      rw [l4, ch4.hl (by decide) (by decide), p62 x hx, ch2.hl (by decide) (by decide), ch1.hl (by decide) (by decide)]
end MADE

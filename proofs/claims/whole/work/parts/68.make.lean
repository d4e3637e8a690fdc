/-! ===== THE REFERENCE: make, the corners ===== -/
theorem FdP.ch {A J : List Nat} {h h' : qH} {f : Nat} {S : Nat → Nat} {Q : Nat → Nat → Int} (c : Ch A J h h') (h1 : 64 ∉ A) (h2 : 65 ∉ A) (h3 : 11 ∉ J) (fd : FdP h f S Q) : FdP h' f S Q := by
  refine ⟨(c.mi h3).trans fd.1, fun j hj => ?_⟩
  rw [c.hi h1 (by decide), c.hl h2 (by decide)]
  exact fd.2 j hj
/-- point p is a corner -/
def cor (S : Nat → Nat) (n f p : Nat) : Bool := anyN (fun j => (S j).testBit p) f && decide (comN S n p f = 2 ^ p)
/-- its number -/
def rk (S : Nat → Nat) (n f p : Nat) : Nat := cntN (cor S n f) p
theorem cntN_mono {p : Nat → Bool} {a b : Nat} (h : a ≤ b) : cntN p a ≤ cntN p b := by
  induction b with
  | zero => rw [Nat.le_zero.mp h]; exact Nat.le_refl _
  | succ b ih =>
    by_cases e : a = b + 1
    · rw [e]; exact Nat.le_refl _
    · have := ih (by omega)
      rw [cntN]; omega
theorem cntN_lt {p : Nat → Bool} {a b : Nat} (h : a < b) (ha : p a = true) : cntN p a < cntN p b := by
  have h1 : cntN p (a + 1) ≤ cntN p b := cntN_mono h
  rw [cntN, if_pos ha] at h1
  omega
section MAKE
variable {d n f i D : Nat} {h h' : qH} {S : Nat → Nat} {Q : Nat → Nat → Int}
def mkA (h : qH) (i n f : Nat) (S : Nat → Nat) (x1 : Int32) : Nat → qL → qH → Prop := fun k L h' => ∃ x5, L = [some (.ref 55), some (.int x1), some (.int (iN i)), some (.int (iN (rk S n f k))), some (.int (iN k)), x5, none] ∧ qlong x5 = false ∧ Ch [59, 68] [] h h' ∧
  (∀ p, p < k → hi h' 68 p = if cor S n f p = true then iN (rk S n f p) else -iN 1) ∧ (∀ p, p < k → cor S n f p = true → ∀ t, t < 4 → hi h' 59 (64 * i + 4 * rk S n f p + t) = hi h 63 (4 * p + t)) ∧ ∀ x, x < 64 * i ∨ 64 * i + 4 * rk S n f k ≤ x → hi h' 59 x = hi h 59 x
set_option maxRecDepth 100000 in
set_option maxHeartbeats 16000000 in
theorem mk_step {x1 : Int32} (hn : mi h 9 = iN n) (h16 : n ≤ 16) (hi' : i < 24) (fd : FdP h f S Q) (hf : f < 2000) : ∀ (k : Nat) (L : qL) (h1 : qH), k < n → mkA h i n f S x1 k L h1 → ∃ L' h2, mkA h i n f S x1 (k + 1) L' h2 ∧ ∀ R, qEv (d + 4) 0 qk_210 10 L [] h1 R ↔ qEv (d + 4) 0 qk_210 10 L' [] h2 R := by
  intro k L h1 hk hP
  obtain ⟨x5, rfl, q5, ch, pl, xs, out⟩ := hP
  have s1 := ch.sh
  have n1 : mi h1 9 = iN n := (ch.mi (by decide)).trans hn
  have k68 := kM_68 s1
  have rle : rk S n f k ≤ k := cntN_le
  obtain ⟨h2, eh2⟩ : ∃ h2, h2 = sI h1 68 (upd (hi h1 68) k (-iN 1)) := ⟨_, rfl⟩
  have c2' : Ch [59, 68] [] h1 h2 := by rw [eh2]; exact Ch.rowI s1 k68 (by decide)
  have ch2 := ch.trans c2'
  have s2 := ch2.sh
  have n2 : mi h2 9 = iN n := (ch2.mi (by decide)).trans hn
  have fd2 : FdP h2 f S Q := fd.ch ch2 (by decide) (by decide) (by decide)
  have ic : ∀ R, qMC (d + 4) 209 [.ref 55, .int (iN k)] h2 R ↔ R = (some (.int (bB (cor S n f k))), h2) := fun R => s_isCorner (d := d + 3) s2 n2 h16 fd2 hf (by omega)
  have e59 : hi h2 59 = hi h1 59 := by rw [eh2, hi_sI, if_neg (by decide)]
  have e63 : hi h2 63 = hi h 63 := ch2.hi (by decide) (by decide)
  have rs : rk S n f (k + 1) = rk S n f k + if cor S n f k = true then 1 else 0 := rfl
  by_cases hc : cor S n f k = true
  · rw [if_pos hc] at rs
    have k68' := kM_68 s2
    obtain ⟨h3, eh3⟩ : ∃ h3, h3 = sI h2 68 (upd (hi h2 68) k (iN (rk S n f k))) := ⟨_, rfl⟩
    have c3' : Ch [59, 68] [] h2 h3 := by rw [eh3]; exact Ch.rowI s2 k68' (by decide)
    have s3 := c3'.sh
    have k59 := kM_59 s3
    have e59' : hi h3 59 = hi h1 59 := by rw [eh3, hi_sI, if_neg (by decide)]; exact e59
    have e63' : hi h3 63 = hi h 63 := by rw [eh3, hi_sI, if_neg (by decide)]; exact e63
    have s4 : ∀ G, ShM (sI h3 59 G) := fun G => s3.rowI k59
    refine ⟨[some (.ref 55), some (.int x1), some (.int (iN i)), some (.int (iN (rk S n f (k + 1)))), some (.int (iN (k + 1))), some (.int (iN 4)), none], sI h3 59 (fun x => if 64 * i + 4 * rk S n f k ≤ x ∧ x < 64 * i + 4 * rk S n f k + 4 then hi h 63 (4 * k + (x - (64 * i + 4 * rk S n f k))) else hi h1 59 x), ⟨_, rfl, rfl, (ch2.trans c3').trans (Ch.rowI s3 k59 (by decide)), ?_, ?_, ?_⟩, fun R => ?_⟩
    · intro p hp
      rw [hi_sI, if_neg (by decide), eh3, hi_sI, if_pos rfl, upd_at, eh2, hi_sI, if_pos rfl, upd_at]
      by_cases e : p = k
      · subst e; rw [if_pos rfl, if_pos hc]
      · rw [if_neg e, if_neg e]; exact pl p (by omega)
    · intro p hp hcp t ht
      rw [hi_sI, if_pos rfl]
      show (if 64 * i + 4 * rk S n f k ≤ 64 * i + 4 * rk S n f p + t ∧ 64 * i + 4 * rk S n f p + t < 64 * i + 4 * rk S n f k + 4 then _ else _) = _
      by_cases e : p = k
      · subst e
        rw [if_pos (by omega), show 64 * i + 4 * rk S n f p + t - (64 * i + 4 * rk S n f p) = t by omega]
      · have : rk S n f p < rk S n f k := cntN_lt (by omega) hcp
        rw [if_neg (by omega)]; exact xs p (by omega) hcp t ht
    · intro x hx
      rw [hi_sI, if_pos rfl]
      show (if 64 * i + 4 * rk S n f k ≤ x ∧ x < 64 * i + 4 * rk S n f k + 4 then _ else _) = _
      rw [rs] at hx
      rw [if_neg (by omega)]; exact out x (by omega)
    · rw [e210_10]
      simp (disch := first | assumption | omega) only [e210_0, e210_1, e210_4, e210_5, e210_6, e210_7, e210_8, e210_12, e210_13, e210_16, e210_19, e210_20, e210_23, e210_25, e210_26, e210_27, e210_28, e210_30, e210_33, e210_36, e210_37, e210_40, e210_42, e210_43, e210_44, e210_45, e210_49, e210_50, e210_53, e210_54, e210_57, e210_59, e210_60, e210_61, e210_62, e210_63, e210_64, e210_65, e210_67, e210_68, e210_69, e210_72, e210_73, e210_75, e210_76, e210_78, e210_79, e210_80, e210_81, e210_84, e210_87, e210_90, e210_93, e210_97, e210_100, e210_101, e210_102, e210_105, e210_106, e210_107, e210_110, e210_111, e210_112, e210_113, e210_114, e210_117, e210_118, e210_119, e210_120, e210_121, e210_123, e210_125, e210_126, e210_129, e210_130, e210_133, e210_134, e210_135, e210_136, e210_138, e210_139, e210_140, e210_141, e210_144, e210_147, e210_148, e210_150, e210_152, e210_153, e210_156, e210_159, e210_160, e210_162, e210_163, e210_165, e210_167, e210_168, e210_171, e210_174, e210_176, e210_177, e210_180, e210_182, e210_183, e210_185, e210_186, e210_187, e210_188, e210_189, e210_192, e210_193, e210_196, e210_198, e210_199, e210_202, e210_203, e210_204, e210_207, e210_209, e210_210, e210_211, e210_214, e210_215, e210_216, e210_218, e210_221, e210_224, e210_225, e210_226, e210_228, e210_230, e210_233, e210_236, e210_239, e210_240, e210_241, e210_244, e210_245, e210_246, e210_249, e210_250, e210_251, e210_254, e210_255, m210, ↓reduceIte, qg_0, qg_1, qg_2, qg_3, qg_4, qg_5, qg_6, qg_7, qg_8, qg_9, qg_10, qg_11, qg_12, qg_13, not_true_eq_false, not_false_eq_true, Nat.reduceBEq, Bool.false_eq_true, ex1, ex3, ex4, exF, qfit_i, qfit_l, qfit_r, qfit_n, qfit_b0, qfit_b1, qcat_i, qcat_r, qcat_n, qcat_l, qroom_0, qroom_c, List.map_cons, List.map_nil, List.sum_cons, List.sum_nil, Nat.reduceAdd, Nat.reduceMul, Nat.reduceLT, Nat.reduceLeDiff, Nat.reduceEqDiff, Nat.reduceSub, decide_true, true_and, and_true, and_self, if_true, if_false, Option.toList_some, Option.toList_none, List.cons_append, List.nil_append, qsL, qlong, List.length_cons, List.length_nil, iN_L, gM_9, n1, iN_le, show ¬ n ≤ k by omega, gM_16, wM_68, ← eh2, vM1, vM2, ic, hc, bB_t, iN_eq, Nat.one_ne_zero, ← eh3]
      have H0 : h3 = sI h3 59 (fun x => if 64 * i + 4 * rk S n f k ≤ x ∧ x < 64 * i + 4 * rk S n f k + 0 then hi h 63 (4 * k + (x - (64 * i + 4 * rk S n f k))) else hi h1 59 x) := by
        have : (fun x => if 64 * i + 4 * rk S n f k ≤ x ∧ x < 64 * i + 4 * rk S n f k + 0 then hi h 63 (4 * k + (x - (64 * i + 4 * rk S n f k))) else hi h1 59 x) = hi h3 59 := by
          funext x; rw [if_neg (by omega), e59']
        rw [this, sI_id k59]
      rw [show qEv (d + 4) 0 qk_210 47 [some (.ref 55), some (.int x1), some (.int (iN i)), some (.int (iN (rk S n f k))), some (.int (iN k)), some (.int (iN 0)), none] [] h3 R ↔ qEv (d + 4) 0 qk_210 47 [some (.ref 55), some (.int x1), some (.int (iN i)), some (.int (iN (rk S n f k))), some (.int (iN k)), some (.int (iN 0)), none] [] (sI h3 59 (fun x => if 64 * i + 4 * rk S n f k ≤ x ∧ x < 64 * i + 4 * rk S n f k + 0 then hi h 63 (4 * k + (x - (64 * i + 4 * rk S n f k))) else hi h1 59 x)) R by rw [← H0]]
      refine Iff.trans (loop_up (n := 4) (L := fun t => [some (.ref 55), some (.int x1), some (.int (iN i)), some (.int (iN (rk S n f k))), some (.int (iN k)), some (.int (iN t)), none]) (H := fun t => sI h3 59 (fun x => if 64 * i + 4 * rk S n f k ≤ x ∧ x < 64 * i + 4 * rk S n f k + t then hi h 63 (4 * k + (x - (64 * i + 4 * rk S n f k))) else hi h1 59 x)) ?_) ?_
      · intro t ht
        try dsimp only
        rw [e210_47]
        have eq1 : upd (fun x => if 64 * i + 4 * rk S n f k ≤ x ∧ x < 64 * i + 4 * rk S n f k + t then hi h 63 (4 * k + (x - (64 * i + 4 * rk S n f k))) else hi h1 59 x) (64 * i + 4 * rk S n f k + t) (hi h 63 (4 * k + t)) = fun x => if 64 * i + 4 * rk S n f k ≤ x ∧ x < 64 * i + 4 * rk S n f k + (t + 1) then hi h 63 (4 * k + (x - (64 * i + 4 * rk S n f k))) else hi h1 59 x := by
          funext x
          rw [upd_at]
          by_cases g1 : x = 64 * i + 4 * rk S n f k + t
          · subst g1; rw [if_pos rfl, if_pos (by omega), show 64 * i + 4 * rk S n f k + t - (64 * i + 4 * rk S n f k) = t by omega]
          · rw [if_neg g1]
            by_cases g2 : 64 * i + 4 * rk S n f k ≤ x ∧ x < 64 * i + 4 * rk S n f k + t
            · rw [if_pos g2, if_pos (by omega)]
            · rw [if_neg g2, if_neg (by omega)]
        simp (disch := first | assumption | omega | exact s4 _) only [e210_0, e210_1, e210_4, e210_5, e210_6, e210_7, e210_8, e210_12, e210_13, e210_16, e210_19, e210_20, e210_23, e210_25, e210_26, e210_27, e210_28, e210_30, e210_33, e210_36, e210_37, e210_40, e210_42, e210_43, e210_44, e210_45, e210_49, e210_50, e210_53, e210_54, e210_57, e210_59, e210_60, e210_61, e210_62, e210_63, e210_64, e210_65, e210_67, e210_68, e210_69, e210_72, e210_73, e210_75, e210_76, e210_78, e210_79, e210_80, e210_81, e210_84, e210_87, e210_90, e210_93, e210_97, e210_100, e210_101, e210_102, e210_105, e210_106, e210_107, e210_110, e210_111, e210_112, e210_113, e210_114, e210_117, e210_118, e210_119, e210_120, e210_121, e210_123, e210_125, e210_126, e210_129, e210_130, e210_133, e210_134, e210_135, e210_136, e210_138, e210_139, e210_140, e210_141, e210_144, e210_147, e210_148, e210_150, e210_152, e210_153, e210_156, e210_159, e210_160, e210_162, e210_163, e210_165, e210_167, e210_168, e210_171, e210_174, e210_176, e210_177, e210_180, e210_182, e210_183, e210_185, e210_186, e210_187, e210_188, e210_189, e210_192, e210_193, e210_196, e210_198, e210_199, e210_202, e210_203, e210_204, e210_207, e210_209, e210_210, e210_211, e210_214, e210_215, e210_216, e210_218, e210_221, e210_224, e210_225, e210_226, e210_228, e210_230, e210_233, e210_236, e210_239, e210_240, e210_241, e210_244, e210_245, e210_246, e210_249, e210_250, e210_251, e210_254, e210_255, m210, ↓reduceIte, qg_0, qg_1, qg_2, qg_3, qg_4, qg_5, qg_6, qg_7, qg_8, qg_9, qg_10, qg_11, qg_12, qg_13, not_true_eq_false, not_false_eq_true, Nat.reduceBEq, Bool.false_eq_true, ex1, ex3, ex4, exF, qfit_i, qfit_l, qfit_r, qfit_n, qfit_b0, qfit_b1, qcat_i, qcat_r, qcat_n, qcat_l, qroom_0, qroom_c, List.map_cons, List.map_nil, List.sum_cons, List.sum_nil, Nat.reduceAdd, Nat.reduceMul, Nat.reduceLT, Nat.reduceLeDiff, Nat.reduceEqDiff, Nat.reduceSub, decide_true, true_and, and_true, and_self, if_true, if_false, Option.toList_some, Option.toList_none, List.cons_append, List.nil_append, qsL, qlong, List.length_cons, List.length_nil, iN_L, iN_le, show ¬ 4 ≤ t by omega, gM_4, gM_10, iN_mul, iN_add, rM_63, hi_sI, e63', wM_59, sI_sI, eq1, exI]
      · try dsimp only
        rw [e210_47]
        simp (disch := first | assumption | omega | exact s4 _) only [e210_0, e210_1, e210_4, e210_5, e210_6, e210_7, e210_8, e210_12, e210_13, e210_16, e210_19, e210_20, e210_23, e210_25, e210_26, e210_27, e210_28, e210_30, e210_33, e210_36, e210_37, e210_40, e210_42, e210_43, e210_44, e210_45, e210_49, e210_50, e210_53, e210_54, e210_57, e210_59, e210_60, e210_61, e210_62, e210_63, e210_64, e210_65, e210_67, e210_68, e210_69, e210_72, e210_73, e210_75, e210_76, e210_78, e210_79, e210_80, e210_81, e210_84, e210_87, e210_90, e210_93, e210_97, e210_100, e210_101, e210_102, e210_105, e210_106, e210_107, e210_110, e210_111, e210_112, e210_113, e210_114, e210_117, e210_118, e210_119, e210_120, e210_121, e210_123, e210_125, e210_126, e210_129, e210_130, e210_133, e210_134, e210_135, e210_136, e210_138, e210_139, e210_140, e210_141, e210_144, e210_147, e210_148, e210_150, e210_152, e210_153, e210_156, e210_159, e210_160, e210_162, e210_163, e210_165, e210_167, e210_168, e210_171, e210_174, e210_176, e210_177, e210_180, e210_182, e210_183, e210_185, e210_186, e210_187, e210_188, e210_189, e210_192, e210_193, e210_196, e210_198, e210_199, e210_202, e210_203, e210_204, e210_207, e210_209, e210_210, e210_211, e210_214, e210_215, e210_216, e210_218, e210_221, e210_224, e210_225, e210_226, e210_228, e210_230, e210_233, e210_236, e210_239, e210_240, e210_241, e210_244, e210_245, e210_246, e210_249, e210_250, e210_251, e210_254, e210_255, m210, ↓reduceIte, qg_0, qg_1, qg_2, qg_3, qg_4, qg_5, qg_6, qg_7, qg_8, qg_9, qg_10, qg_11, qg_12, qg_13, not_true_eq_false, not_false_eq_true, Nat.reduceBEq, Bool.false_eq_true, ex1, ex3, ex4, exF, qfit_i, qfit_l, qfit_r, qfit_n, qfit_b0, qfit_b1, qcat_i, qcat_r, qcat_n, qcat_l, qroom_0, qroom_c, List.map_cons, List.map_nil, List.sum_cons, List.sum_nil, Nat.reduceAdd, Nat.reduceMul, Nat.reduceLT, Nat.reduceLeDiff, Nat.reduceEqDiff, Nat.reduceSub, decide_true, true_and, and_true, and_self, if_true, if_false, Option.toList_some, Option.toList_none, List.cons_append, List.nil_append, qsL, qlong, List.length_cons, List.length_nil, iN_L, iN_le, Nat.le_refl, exI, iN_add, rs]
  · rw [if_neg hc] at rs
    have hcf : cor S n f k = false := by cases hz : cor S n f k with | false => rfl | true => exact absurd hz hc
    refine ⟨[some (.ref 55), some (.int x1), some (.int (iN i)), some (.int (iN (rk S n f (k + 1)))), some (.int (iN (k + 1))), x5, none], h2, ⟨x5, rfl, q5, ch2, ?_, ?_, ?_⟩, fun R => ?_⟩
    · intro p hp
      rw [eh2, hi_sI, if_pos rfl, upd_at]
      by_cases e : p = k
      · subst e; rw [if_pos rfl, if_neg hc]
      · rw [if_neg e]; exact pl p (by omega)
    · intro p hp hcp t ht
      rw [e59]
      exact xs p (by rcases Nat.lt_or_ge p k with z | z; exact z; exact absurd (show cor S n f k = true by rw [show k = p by omega]; exact hcp) hc) hcp t ht
    · intro x hx
      rw [e59]; rw [rs] at hx; exact out x (by omega)
    · rw [e210_10]
      simp (disch := first | assumption | omega) only [e210_0, e210_1, e210_4, e210_5, e210_6, e210_7, e210_8, e210_12, e210_13, e210_16, e210_19, e210_20, e210_23, e210_25, e210_26, e210_27, e210_28, e210_30, e210_33, e210_36, e210_37, e210_40, e210_42, e210_43, e210_44, e210_45, e210_49, e210_50, e210_53, e210_54, e210_57, e210_59, e210_60, e210_61, e210_62, e210_63, e210_64, e210_65, e210_67, e210_68, e210_69, e210_72, e210_73, e210_75, e210_76, e210_78, e210_79, e210_80, e210_81, e210_84, e210_87, e210_90, e210_93, e210_97, e210_100, e210_101, e210_102, e210_105, e210_106, e210_107, e210_110, e210_111, e210_112, e210_113, e210_114, e210_117, e210_118, e210_119, e210_120, e210_121, e210_123, e210_125, e210_126, e210_129, e210_130, e210_133, e210_134, e210_135, e210_136, e210_138, e210_139, e210_140, e210_141, e210_144, e210_147, e210_148, e210_150, e210_152, e210_153, e210_156, e210_159, e210_160, e210_162, e210_163, e210_165, e210_167, e210_168, e210_171, e210_174, e210_176, e210_177, e210_180, e210_182, e210_183, e210_185, e210_186, e210_187, e210_188, e210_189, e210_192, e210_193, e210_196, e210_198, e210_199, e210_202, e210_203, e210_204, e210_207, e210_209, e210_210, e210_211, e210_214, e210_215, e210_216, e210_218, e210_221, e210_224, e210_225, e210_226, e210_228, e210_230, e210_233, e210_236, e210_239, e210_240, e210_241, e210_244, e210_245, e210_246, e210_249, e210_250, e210_251, e210_254, e210_255, m210, ↓reduceIte, qg_0, qg_1, qg_2, qg_3, qg_4, qg_5, qg_6, qg_7, qg_8, qg_9, qg_10, qg_11, qg_12, qg_13, not_true_eq_false, not_false_eq_true, Nat.reduceBEq, Bool.false_eq_true, ex1, ex3, ex4, exF, qfit_i, qfit_l, qfit_r, qfit_n, qfit_b0, qfit_b1, qcat_i, qcat_r, qcat_n, qcat_l, qroom_0, qroom_c, List.map_cons, List.map_nil, List.sum_cons, List.sum_nil, Nat.reduceAdd, Nat.reduceMul, Nat.reduceLT, Nat.reduceLeDiff, Nat.reduceEqDiff, Nat.reduceSub, decide_true, true_and, and_true, and_self, if_true, if_false, Option.toList_some, Option.toList_none, List.cons_append, List.nil_append, qsL, qlong, List.length_cons, List.length_nil, iN_L, gM_9, n1, iN_le, show ¬ n ≤ k by omega, gM_16, wM_68, ← eh2, vM1, vM2, ic, hcf, bB_f, exI, iN_add, rs, Nat.add_zero]
end MAKE

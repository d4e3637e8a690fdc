/-! ===== THE REFERENCE: square, cube ===== -/
section SIZE
variable {d : Nat} {h : qH} {bs : List bdy} {i : Nat} {m : Nat} {E : Nat → Nat → Int}
/-- rows of differences -/
def EdV (h : qH) (m : Nat) (E : Nat → Nat → Int) : Prop := ∀ r, r < m → ∀ k, k < 4 → hl h 90 (4 * r + k) = lZ (E r k)
def sq2 (E : Nat → Nat → Int) (a b x y : Nat) : Int := E a x * E b y - E a y * E b x
def cu3 (E : Nat → Nat → Int) (a b c x y z : Nat) : Int := E a x * sq2 E b c y z - E a y * sq2 E b c x z + E a z * sq2 E b c x y
set_option maxRecDepth 100000 in
set_option maxHeartbeats 16000000 in
theorem s_square {a b x y : Nat} (s : ShM h) (v : EdV h m E) (hm : m ≤ 4) (ha : a < m) (hb : b < m) (hx : x < 4) (hy : y < 4) (R : qRes) : qMC (d + 1) 285 [.ref 55, .int (iN a), .int (iN b), .int (iN x), .int (iN y)] h R ↔ R = (some (.long (lZ (sq2 E a b x y))), h) := by
  have v1 := v a ha x hx
  have v2 := v a ha y hy
  have v3 := v b hb x hx
  have v4 := v b hb y hy
  simp (disch := first | assumption | omega) only [e285_0, e285_1, e285_4, e285_5, e285_6, e285_7, e285_8, e285_9, e285_10, e285_11, e285_14, e285_15, e285_16, e285_17, e285_19, e285_20, e285_21, e285_22, e285_23, e285_26, e285_27, e285_28, e285_29, e285_31, e285_32, e285_33, e285_34, e285_37, e285_38, e285_39, e285_40, e285_41, e285_42, e285_43, e285_44, e285_45, m285, ↓reduceIte, qg_0, qg_1, qg_2, qg_3, qg_4, qg_5, qg_6, qg_7, qg_8, qg_9, qg_10, qg_11, qg_12, qg_13, not_true_eq_false, not_false_eq_true, Nat.reduceBEq, Bool.false_eq_true, ex1, ex3, ex4, exF, qfit_i, qfit_l, qfit_r, qfit_n, qfit_b0, qfit_b1, qcat_i, qcat_r, qcat_n, qcat_l, qroom_0, qroom_c, List.map_cons, List.map_nil, List.sum_cons, List.sum_nil, Nat.reduceAdd, Nat.reduceMul, Nat.reduceLT, Nat.reduceLeDiff, Nat.reduceEqDiff, Nat.reduceSub, decide_true, true_and, and_true, and_self, if_true, if_false, Option.toList_some, Option.toList_none, List.cons_append, List.nil_append, qsL, qlong, List.length_cons, List.length_nil, iN_L, vM1, vM2, exI, iN_add, iN_mul, iN_le, iN_lt, iN_eq, Nat.le_refl, qfN0, qfN1, gM_47, rM_90, v1, v2, v3, v4, lZ_mul, lZ_sub]
  exact Iff.rfl
set_option maxRecDepth 100000 in
set_option maxHeartbeats 16000000 in
theorem s_cube {a b c x y z : Nat} (s : ShM h) (v : EdV h m E) (hm : m ≤ 4) (ha : a < m) (hb : b < m) (hc : c < m) (hx : x < 4) (hy : y < 4) (hz : z < 4) (R : qRes) : qMC (d + 2) 286 [.ref 55, .int (iN a), .int (iN b), .int (iN c), .int (iN x), .int (iN y), .int (iN z)] h R ↔ R = (some (.long (lZ (cu3 E a b c x y z))), h) := by
  have v1 := v a ha x hx
  have v2 := v a ha y hy
  have v3 := v a ha z hz
  have q1 : ∀ R, qMC (d + 1) 285 [.ref 55, .int (iN b), .int (iN c), .int (iN y), .int (iN z)] h R ↔ _ := fun R => s_square s v hm hb hc hy hz R
  have q2 : ∀ R, qMC (d + 1) 285 [.ref 55, .int (iN b), .int (iN c), .int (iN x), .int (iN z)] h R ↔ _ := fun R => s_square s v hm hb hc hx hz R
  have q3 : ∀ R, qMC (d + 1) 285 [.ref 55, .int (iN b), .int (iN c), .int (iN x), .int (iN y)] h R ↔ _ := fun R => s_square s v hm hb hc hx hy R
  simp (disch := first | assumption | omega) only [e286_0, e286_1, e286_4, e286_5, e286_6, e286_7, e286_9, e286_10, e286_11, e286_12, e286_13, e286_14, e286_16, e286_18, e286_21, e286_22, e286_23, e286_26, e286_27, e286_28, e286_29, e286_31, e286_32, e286_33, e286_34, e286_35, e286_36, e286_38, e286_40, e286_43, e286_44, e286_45, e286_46, e286_49, e286_50, e286_51, e286_52, e286_54, e286_55, e286_56, e286_57, e286_58, e286_59, e286_61, e286_63, e286_66, e286_67, e286_68, m286, ↓reduceIte, qg_0, qg_1, qg_2, qg_3, qg_4, qg_5, qg_6, qg_7, qg_8, qg_9, qg_10, qg_11, qg_12, qg_13, not_true_eq_false, not_false_eq_true, Nat.reduceBEq, Bool.false_eq_true, ex1, ex3, ex4, exF, qfit_i, qfit_l, qfit_r, qfit_n, qfit_b0, qfit_b1, qcat_i, qcat_r, qcat_n, qcat_l, qroom_0, qroom_c, List.map_cons, List.map_nil, List.sum_cons, List.sum_nil, Nat.reduceAdd, Nat.reduceMul, Nat.reduceLT, Nat.reduceLeDiff, Nat.reduceEqDiff, Nat.reduceSub, decide_true, true_and, and_true, and_self, if_true, if_false, Option.toList_some, Option.toList_none, List.cons_append, List.nil_append, qsL, qlong, List.length_cons, List.length_nil, iN_L, vM1, vM2, exI, iN_add, iN_mul, iN_le, iN_lt, iN_eq, Nat.le_refl, qfN0, qfN1, gM_47, rM_90, v1, v2, v3, q1, q2, q3, lZ_mul, lZ_sub, lZ_add]
  exact Iff.rfl
/-- bounds -/
theorem mulB2 {a b A B : Int} (hA : 0 ≤ A) (h1 : -A ≤ a ∧ a ≤ A) (h2 : -B ≤ b ∧ b ≤ B) : -(A * B) ≤ a * b ∧ a * b ≤ A * B := by
  obtain ⟨x1, x2⟩ := h1
  obtain ⟨y1, y2⟩ := h2
  have p1 : 0 ≤ (A - a) * (B + b) := Int.mul_nonneg (by omega) (by omega)
  have p2 : 0 ≤ (A + a) * (B - b) := Int.mul_nonneg (by omega) (by omega)
  have p3 : 0 ≤ (A - a) * (B - b) := Int.mul_nonneg (by omega) (by omega)
  have p4 : 0 ≤ (A + a) * (B + b) := Int.mul_nonneg (by omega) (by omega)
  constructor <;> grind
theorem sq2_b {a b x y : Nat} (hE : ∀ r k, r < m → k < 4 → -1998 ≤ E r k ∧ E r k ≤ 1998) (ha : a < m) (hb : b < m) (hx : x < 4) (hy : y < 4) : -7984008 ≤ sq2 E a b x y ∧ sq2 E a b x y ≤ 7984008 := by
  have h1 := mulB2 (by decide) (hE a x ha hx) (hE b y hb hy)
  have h2 := mulB2 (by decide) (hE a y ha hy) (hE b x hb hx)
  unfold sq2
  omega
theorem cu3_b {a b c x y z : Nat} (hE : ∀ r k, r < m → k < 4 → -1998 ≤ E r k ∧ E r k ≤ 1998) (ha : a < m) (hb : b < m) (hc : c < m) (hx : x < 4) (hy : y < 4) (hz : z < 4) : -47856143952 ≤ cu3 E a b c x y z ∧ cu3 E a b c x y z ≤ 47856143952 := by
  have h1 := mulB2 (by decide) (hE a x ha hx) (sq2_b hE hb hc hy hz)
  have h2 := mulB2 (by decide) (hE a y ha hy) (sq2_b hE hb hc hx hz)
  have h3 := mulB2 (by decide) (hE a z ha hz) (sq2_b hE hb hc hx hy)
  unfold cu3
  omega
def de4 (E : Nat → Nat → Int) : Int := E 0 0 * cu3 E 1 2 3 1 2 3 - E 0 1 * cu3 E 1 2 3 0 2 3 + E 0 2 * cu3 E 1 2 3 0 1 3 - E 0 3 * cu3 E 1 2 3 0 1 2
def deD (D : Nat) (E : Nat → Nat → Int) : Int := if D = 2 then sq2 E 0 1 0 1 else if D = 3 then cu3 E 0 1 2 0 1 2 else de4 E
theorem deD_b {D : Nat} (hD : 2 ≤ D ∧ D ≤ 4) (hE : ∀ r k, r < D → k < 4 → -1998 ≤ E r k ∧ E r k ≤ 1998) : -400000000000000 ≤ deD D E ∧ deD D E ≤ 400000000000000 := by
  unfold deD
  by_cases h2 : D = 2
  · have := sq2_b (m := D) hE (show 0 < D by omega) (show 1 < D by omega) (show 0 < 4 by omega) (show 1 < 4 by omega)
    rw [if_pos h2]; omega
  · rw [if_neg h2]
    by_cases h3 : D = 3
    · have := cu3_b (m := D) hE (show 0 < D by omega) (show 1 < D by omega) (show 2 < D by omega) (show 0 < 4 by omega) (show 1 < 4 by omega) (show 2 < 4 by omega)
      rw [if_pos h3]; omega
    · rw [if_neg h3]
      have c1 := mulB2 (by decide) (hE 0 0 (by omega) (by omega)) (cu3_b (m := D) hE (show 1 < D by omega) (show 2 < D by omega) (show 3 < D by omega) (show 1 < 4 by omega) (show 2 < 4 by omega) (show 3 < 4 by omega))
      have c2 := mulB2 (by decide) (hE 0 1 (by omega) (by omega)) (cu3_b (m := D) hE (show 1 < D by omega) (show 2 < D by omega) (show 3 < D by omega) (show 0 < 4 by omega) (show 2 < 4 by omega) (show 3 < 4 by omega))
      have c3 := mulB2 (by decide) (hE 0 2 (by omega) (by omega)) (cu3_b (m := D) hE (show 1 < D by omega) (show 2 < D by omega) (show 3 < D by omega) (show 0 < 4 by omega) (show 1 < 4 by omega) (show 3 < 4 by omega))
      have c4 := mulB2 (by decide) (hE 0 3 (by omega) (by omega)) (cu3_b (m := D) hE (show 1 < D by omega) (show 2 < D by omega) (show 3 < D by omega) (show 0 < 4 by omega) (show 1 < 4 by omega) (show 2 < 4 by omega))
      unfold de4
      omega
/-- the corners of a piece, in order -/
def mbr (x n : Nat) : List Nat := pickN (fun c => x.testBit c) n
theorem mbr_at {x n c : Nat} (hc : c < n) (hb : x.testBit c = true) : (mbr x n).getD (pop x c) 0 = c := by
  obtain ⟨k, h1, h2, h3, h4⟩ := pickN_get (fun c => x.testBit c) (n := n) (c := pop x c) (cntN_lt (p := fun c => x.testBit c) hc hb)
  rw [show (mbr x n).getD (pop x c) 0 = k from h4]
  exact cntN_at (p := fun c => x.testBit c) h2 hb h3
/-- the row of a corner: how far it is from the first -/
noncomputable def edE (bs : List bdy) (i x : Nat) (r k : Nat) : Int := lP (cnr bs i) ((mbr x (cnr bs i).length).getD (r + 1) 0) k - lP (cnr bs i) ((mbr x (cnr bs i).length).getD 0 0) k
noncomputable def fstV (bs : List bdy) (i x c : Nat) : Int32 := if pop x c = 0 then -iN 1 else iN ((mbr x (cnr bs i).length).getD 0 0)
theorem pop_s {x c : Nat} : pop x (c + 1) = pop x c + (if x.testBit c = true then 1 else 0) := rfl
set_option maxRecDepth 100000 in
set_option maxHeartbeats 16000000 in
theorem sz_row {x c f e : Nat} (s : ShM h) (B : BsM h bs) (hi' : i < bs.length) (hf : f < (cnr bs i).length) (hc : c < (cnr bs i).length) (he : e < 4) : ∀ (w k : Nat) (h1 : qH), k + w = 4 → Ch [90] [] h h1 → ∃ h', (∀ R, qEv (d + 2) 1 qk_287 32 [some (.ref 55), some (.int (iN i)), some (.int (iN x)), some (.int (iN f)), some (.int (iN e)), some (.int (iN c)), some (.int (iN k))] [] h1 R ↔ qEv (d + 2) 1 qk_287 79 [some (.ref 55), some (.int (iN i)), some (.int (iN x)), some (.int (iN f)), some (.int (iN e)), some (.int (iN c)), some (.int (iN 4))] [] h' R) ∧ Ch [90] [] h h' ∧ (∀ t, t < 4 * e + k → hl h' 90 t = hl h1 90 t) ∧ ∀ j, k ≤ j → j < 4 → hl h' 90 (4 * e + j) = lZ (lP (cnr bs i) c j - lP (cnr bs i) f j) := by
  have b24 := B.1
  have li := (B.corn hi').2.1
  intro w
  induction w with
  | zero =>
    intro k h1 hk c1
    have e4 : k = 4 := by omega
    subst e4
    refine ⟨h1, fun R => ?_, c1, fun t _ => rfl, fun j h1 h2 => by omega⟩
    rw [e287_32]
    simp (disch := first | assumption | omega) only [e287_0, e287_1, e287_2, e287_3, e287_5, e287_6, e287_8, e287_10, e287_11, e287_14, e287_15, e287_16, e287_19, e287_20, e287_22, e287_23, e287_24, e287_25, e287_26, e287_29, e287_30, e287_34, e287_35, e287_38, e287_39, e287_42, e287_43, e287_46, e287_47, e287_49, e287_50, e287_52, e287_53, e287_54, e287_55, e287_57, e287_59, e287_62, e287_63, e287_64, e287_65, e287_67, e287_70, e287_71, e287_72, e287_73, e287_76, e287_81, e287_82, e287_85, e287_86, e287_89, e287_90, e287_91, e287_93, e287_94, e287_97, e287_99, e287_102, e287_103, e287_104, e287_107, e287_110, e287_111, e287_114, e287_115, e287_116, e287_117, e287_120, e287_121, e287_122, e287_123, e287_124, e287_125, e287_128, e287_131, e287_132, e287_133, e287_136, e287_137, e287_138, e287_139, e287_142, e287_143, e287_144, e287_145, e287_146, e287_147, e287_148, e287_149, e287_152, e287_155, e287_156, e287_157, e287_160, e287_161, e287_162, e287_163, e287_164, e287_165, e287_166, e287_167, e287_168, e287_169, e287_172, e287_173, e287_174, e287_177, e287_178, e287_179, e287_180, e287_181, e287_182, e287_183, e287_184, e287_185, e287_186, e287_189, e287_190, e287_191, e287_193, e287_195, e287_196, e287_199, e287_200, e287_201, e287_202, e287_203, e287_204, e287_205, e287_206, e287_207, e287_208, e287_211, e287_212, e287_213, e287_214, e287_217, e287_218, e287_219, e287_220, e287_221, e287_222, e287_223, e287_224, e287_225, e287_226, e287_229, e287_230, e287_231, e287_234, m287, ↓reduceIte, qg_0, qg_1, qg_2, qg_3, qg_4, qg_5, qg_6, qg_7, qg_8, qg_9, qg_10, qg_11, qg_12, qg_13, not_true_eq_false, not_false_eq_true, Nat.reduceBEq, Bool.false_eq_true, ex1, ex3, ex4, exF, qfit_i, qfit_l, qfit_r, qfit_n, qfit_b0, qfit_b1, qcat_i, qcat_r, qcat_n, qcat_l, qroom_0, qroom_c, List.map_cons, List.map_nil, List.sum_cons, List.sum_nil, Nat.reduceAdd, Nat.reduceMul, Nat.reduceLT, Nat.reduceLeDiff, Nat.reduceEqDiff, Nat.reduceSub, decide_true, true_and, and_true, and_self, if_true, if_false, Option.toList_some, Option.toList_none, List.cons_append, List.nil_append, qsL, qlong, List.length_cons, List.length_nil, iN_L, vM1, vM2, exI, iN_add, iN_mul, iN_le, iN_lt, iN_eq, Nat.le_refl, qfN0, qfN1]
  | succ w ih =>
    intro k h1 hk c1
    have s1 := c1.sh
    have B1 : BsM h1 bs := B.ch c1 (by decide) (by decide)
    have xc := (B1.corn hi').2.2 c hc k (by omega)
    have xf := (B1.corn hi').2.2 f hf k (by omega)
    have x1 : ∀ R, qMC (d + 2) 194 [.ref 55, .int (iN i), .int (iN c), .int (iN k)] h1 R ↔ R = (some (.int (iZ (lP (cnr bs i) c k))), h1) := fun R => by rw [s_x s1 (by omega), xc.1]
    have x2 : ∀ R, qMC (d + 2) 194 [.ref 55, .int (iN i), .int (iN f), .int (iN k)] h1 R ↔ R = (some (.int (iZ (lP (cnr bs i) f k))), h1) := fun R => by rw [s_x s1 (by omega), xf.1]
    have df : (iZ (lP (cnr bs i) c k) - iZ (lP (cnr bs i) f k)).toInt64 = lZ (lP (cnr bs i) c k - lP (cnr bs i) f k) := by
      rw [iZ_sub, iZ_long (by have := xc.2; have := xf.2; exact ⟨by omega, by omega⟩)]
    obtain ⟨g, eg⟩ : ∃ g, g = sL h1 90 (vp_updL (hl h1 90) (4 * e + k) (lZ (lP (cnr bs i) c k - lP (cnr bs i) f k))) := ⟨_, rfl⟩
    have cg : Ch [90] [] h g := c1.trans (by rw [eg]; exact Ch.rowL s1 (kM_90 s1) (by decide))
    have hg : ∀ t, hl g 90 t = if t = 4 * e + k then lZ (lP (cnr bs i) c k - lP (cnr bs i) f k) else hl h1 90 t := fun t => by rw [eg, hl_sL, if_pos rfl, updL_at]
    obtain ⟨h', r, c', o', n'⟩ := ih (k + 1) g (by omega) cg
    refine ⟨h', fun R => ?_, c', fun t ht => ?_, fun j h1 h2 => ?_⟩
    · rw [← r R, e287_32]
      have nf : ¬ iN f < iN 0 := by rw [iN_lt (by omega) (by omega)]; omega
      simp (disch := first | assumption | omega) only [e287_0, e287_1, e287_2, e287_3, e287_5, e287_6, e287_8, e287_10, e287_11, e287_14, e287_15, e287_16, e287_19, e287_20, e287_22, e287_23, e287_24, e287_25, e287_26, e287_29, e287_30, e287_34, e287_35, e287_38, e287_39, e287_42, e287_43, e287_46, e287_47, e287_49, e287_50, e287_52, e287_53, e287_54, e287_55, e287_57, e287_59, e287_62, e287_63, e287_64, e287_65, e287_67, e287_70, e287_71, e287_72, e287_73, e287_76, e287_81, e287_82, e287_85, e287_86, e287_89, e287_90, e287_91, e287_93, e287_94, e287_97, e287_99, e287_102, e287_103, e287_104, e287_107, e287_110, e287_111, e287_114, e287_115, e287_116, e287_117, e287_120, e287_121, e287_122, e287_123, e287_124, e287_125, e287_128, e287_131, e287_132, e287_133, e287_136, e287_137, e287_138, e287_139, e287_142, e287_143, e287_144, e287_145, e287_146, e287_147, e287_148, e287_149, e287_152, e287_155, e287_156, e287_157, e287_160, e287_161, e287_162, e287_163, e287_164, e287_165, e287_166, e287_167, e287_168, e287_169, e287_172, e287_173, e287_174, e287_177, e287_178, e287_179, e287_180, e287_181, e287_182, e287_183, e287_184, e287_185, e287_186, e287_189, e287_190, e287_191, e287_193, e287_195, e287_196, e287_199, e287_200, e287_201, e287_202, e287_203, e287_204, e287_205, e287_206, e287_207, e287_208, e287_211, e287_212, e287_213, e287_214, e287_217, e287_218, e287_219, e287_220, e287_221, e287_222, e287_223, e287_224, e287_225, e287_226, e287_229, e287_230, e287_231, e287_234, m287, ↓reduceIte, qg_0, qg_1, qg_2, qg_3, qg_4, qg_5, qg_6, qg_7, qg_8, qg_9, qg_10, qg_11, qg_12, qg_13, not_true_eq_false, not_false_eq_true, Nat.reduceBEq, Bool.false_eq_true, ex1, ex3, ex4, exF, qfit_i, qfit_l, qfit_r, qfit_n, qfit_b0, qfit_b1, qcat_i, qcat_r, qcat_n, qcat_l, qroom_0, qroom_c, List.map_cons, List.map_nil, List.sum_cons, List.sum_nil, Nat.reduceAdd, Nat.reduceMul, Nat.reduceLT, Nat.reduceLeDiff, Nat.reduceEqDiff, Nat.reduceSub, decide_true, true_and, and_true, and_self, if_true, if_false, Option.toList_some, Option.toList_none, List.cons_append, List.nil_append, qsL, qlong, List.length_cons, List.length_nil, iN_L, vM1, vM2, exI, iN_add, iN_mul, iN_le, iN_lt, iN_eq, Nat.le_refl, qfN0, qfN1, show ¬ 4 ≤ k by omega, Nat.not_lt_zero, gM_47, x1, x2, df, wM_90, ← eg]
    · rw [o' t (by omega), hg, if_neg (by omega)]
    · by_cases e0 : j = k
      · subst e0
        rw [o' _ (by omega), hg, if_pos rfl]
      · exact n' j (by omega) h2
set_option maxRecDepth 100000 in
set_option maxHeartbeats 16000000 in
theorem sz_rows {x : Nat} (s : ShM h) (B : BsM h bs) (hi' : i < bs.length) (hx : x < 65536) (hp : pop x (cnr bs i).length ≤ 5) : ∀ (w c : Nat) (h1 : qH) (x6 : Option Value), c + w = (cnr bs i).length → Ch [90] [] h h1 → EdV h1 (pop x c - 1) (edE bs i x) → ∃ h' y6, (∀ R, qEv (d + 2) 1 qk_287 8 [some (.ref 55), some (.int (iN i)), some (.int (iN x)), some (.int (fstV bs i x c)), some (.int (iN (pop x c - 1))), some (.int (iN c)), x6] [] h1 R ↔ qEv (d + 2) 1 qk_287 8 [some (.ref 55), some (.int (iN i)), some (.int (iN x)), some (.int (fstV bs i x (cnr bs i).length)), some (.int (iN (pop x (cnr bs i).length - 1))), some (.int (iN ((cnr bs i).length))), y6] [] h' R) ∧ Ch [90] [] h h' ∧ EdV h' (pop x (cnr bs i).length - 1) (edE bs i x) := by
  have b24 := B.1
  have li := (B.corn hi').2.1
  intro w
  induction w with
  | zero =>
    intro c h1 x6 hc c1 v
    have e : c = (cnr bs i).length := by omega
    subst e
    exact ⟨h1, x6, fun R => Iff.rfl, c1, v⟩
  | succ w ih =>
    intro c h1 x6 hw c1 v
    have hc : c < (cnr bs i).length := by omega
    have s1 := c1.sh
    have n57 : hi h1 57 i = iN (cnr bs i).length := by rw [c1.hi (by decide) (by decide)]; exact (B.corn hi').1
    cases hb : x.testBit c with
    | false =>
      have bt := bit0 (m := x) (p := c) (by omega) (by omega) hb
      have ps : pop x (c + 1) = pop x c := by rw [pop_s, hb]; rfl
      obtain ⟨h', y6, r, c', v'⟩ := ih (c + 1) h1 x6 (by omega) c1 (by rw [ps]; exact v)
      refine ⟨h', y6, fun R => ?_, c', v'⟩
      rw [← r R, ps, show fstV bs i x (c + 1) = fstV bs i x c by unfold fstV; rw [ps], e287_8]
      simp (disch := first | assumption | omega) only [e287_0, e287_1, e287_2, e287_3, e287_5, e287_6, e287_10, e287_11, e287_14, e287_15, e287_16, e287_19, e287_20, e287_22, e287_23, e287_24, e287_25, e287_26, e287_29, e287_30, e287_34, e287_35, e287_38, e287_39, e287_42, e287_43, e287_46, e287_47, e287_49, e287_50, e287_52, e287_53, e287_54, e287_55, e287_57, e287_59, e287_62, e287_63, e287_64, e287_65, e287_67, e287_70, e287_71, e287_72, e287_73, e287_76, e287_81, e287_82, e287_85, e287_86, e287_89, e287_90, e287_91, e287_93, e287_94, e287_97, e287_99, e287_102, e287_103, e287_104, e287_107, e287_110, e287_111, e287_114, e287_115, e287_116, e287_117, e287_120, e287_121, e287_122, e287_123, e287_124, e287_125, e287_128, e287_131, e287_132, e287_133, e287_136, e287_137, e287_138, e287_139, e287_142, e287_143, e287_144, e287_145, e287_146, e287_147, e287_148, e287_149, e287_152, e287_155, e287_156, e287_157, e287_160, e287_161, e287_162, e287_163, e287_164, e287_165, e287_166, e287_167, e287_168, e287_169, e287_172, e287_173, e287_174, e287_177, e287_178, e287_179, e287_180, e287_181, e287_182, e287_183, e287_184, e287_185, e287_186, e287_189, e287_190, e287_191, e287_193, e287_195, e287_196, e287_199, e287_200, e287_201, e287_202, e287_203, e287_204, e287_205, e287_206, e287_207, e287_208, e287_211, e287_212, e287_213, e287_214, e287_217, e287_218, e287_219, e287_220, e287_221, e287_222, e287_223, e287_224, e287_225, e287_226, e287_229, e287_230, e287_231, e287_234, m287, ↓reduceIte, qg_0, qg_1, qg_2, qg_3, qg_4, qg_5, qg_6, qg_7, qg_8, qg_9, qg_10, qg_11, qg_12, qg_13, not_true_eq_false, not_false_eq_true, Nat.reduceBEq, Bool.false_eq_true, ex1, ex3, ex4, exF, qfit_i, qfit_l, qfit_r, qfit_n, qfit_b0, qfit_b1, qcat_i, qcat_r, qcat_n, qcat_l, qroom_0, qroom_c, List.map_cons, List.map_nil, List.sum_cons, List.sum_nil, Nat.reduceAdd, Nat.reduceMul, Nat.reduceLT, Nat.reduceLeDiff, Nat.reduceEqDiff, Nat.reduceSub, decide_true, true_and, and_true, and_self, if_true, if_false, Option.toList_some, Option.toList_none, List.cons_append, List.nil_append, qsL, qlong, List.length_cons, List.length_nil, iN_L, vM1, vM2, exI, iN_add, iN_mul, iN_le, iN_lt, iN_eq, Nat.le_refl, qfN0, qfN1, gM_2, rM_57, n57, show ¬ (cnr bs i).length ≤ c by omega, bt, show ¬ iN 0 = iN 1 by decide]
    | true =>
      have bt := bit1 (m := x) (p := c) (by omega) (by omega) hb
      have ps : pop x (c + 1) = pop x c + 1 := by rw [pop_s, hb]; rfl
      have pm : pop x (c + 1) ≤ pop x (cnr bs i).length := cntN_mono (by omega)
      have mc := mbr_at hc hb
      by_cases h0 : pop x c = 0
      · have e1 : fstV bs i x c = -iN 1 := if_pos h0
        have e2 : fstV bs i x (c + 1) = iN c := by
          unfold fstV
          rw [if_neg (by omega)]
          rw [h0] at mc
          rw [mc]
        obtain ⟨h', y6, r, c', v'⟩ := ih (c + 1) h1 (some (.int (iN 0))) (by omega) c1 (fun t ht => by omega)
        refine ⟨h', y6, fun R => ?_, c', v'⟩
        rw [← r R, ps, e1, e2, h0, e287_8]
        have m1 : -iN 1 < iN 0 := by decide
        have m2 : ¬ iN 0 ≤ -iN 1 := by decide
        have r1 : ∀ R, qEv (d + 2) 1 qk_287 32 [some (.ref 55), some (.int (iN i)), some (.int (iN x)), some (.int (-iN 1)), some (.int (iN (0 - 1))), some (.int (iN c)), some (.int (iN 0))] [] h1 R ↔ qEv (d + 2) 1 qk_287 79 [some (.ref 55), some (.int (iN i)), some (.int (iN x)), some (.int (-iN 1)), some (.int (iN (0 - 1))), some (.int (iN c)), some (.int (iN 0))] [] h1 R := by
          intro R
          rw [e287_32]
          simp (disch := first | assumption | omega) only [e287_0, e287_1, e287_2, e287_3, e287_5, e287_6, e287_8, e287_10, e287_11, e287_14, e287_15, e287_16, e287_19, e287_20, e287_22, e287_23, e287_24, e287_25, e287_26, e287_29, e287_30, e287_34, e287_35, e287_38, e287_39, e287_42, e287_43, e287_46, e287_47, e287_49, e287_50, e287_52, e287_53, e287_54, e287_55, e287_57, e287_59, e287_62, e287_63, e287_64, e287_65, e287_67, e287_70, e287_71, e287_72, e287_73, e287_76, e287_81, e287_82, e287_85, e287_86, e287_89, e287_90, e287_91, e287_93, e287_94, e287_97, e287_99, e287_102, e287_103, e287_104, e287_107, e287_110, e287_111, e287_114, e287_115, e287_116, e287_117, e287_120, e287_121, e287_122, e287_123, e287_124, e287_125, e287_128, e287_131, e287_132, e287_133, e287_136, e287_137, e287_138, e287_139, e287_142, e287_143, e287_144, e287_145, e287_146, e287_147, e287_148, e287_149, e287_152, e287_155, e287_156, e287_157, e287_160, e287_161, e287_162, e287_163, e287_164, e287_165, e287_166, e287_167, e287_168, e287_169, e287_172, e287_173, e287_174, e287_177, e287_178, e287_179, e287_180, e287_181, e287_182, e287_183, e287_184, e287_185, e287_186, e287_189, e287_190, e287_191, e287_193, e287_195, e287_196, e287_199, e287_200, e287_201, e287_202, e287_203, e287_204, e287_205, e287_206, e287_207, e287_208, e287_211, e287_212, e287_213, e287_214, e287_217, e287_218, e287_219, e287_220, e287_221, e287_222, e287_223, e287_224, e287_225, e287_226, e287_229, e287_230, e287_231, e287_234, m287, ↓reduceIte, qg_0, qg_1, qg_2, qg_3, qg_4, qg_5, qg_6, qg_7, qg_8, qg_9, qg_10, qg_11, qg_12, qg_13, not_true_eq_false, not_false_eq_true, Nat.reduceBEq, Bool.false_eq_true, ex1, ex3, ex4, exF, qfit_i, qfit_l, qfit_r, qfit_n, qfit_b0, qfit_b1, qcat_i, qcat_r, qcat_n, qcat_l, qroom_0, qroom_c, List.map_cons, List.map_nil, List.sum_cons, List.sum_nil, Nat.reduceAdd, Nat.reduceMul, Nat.reduceLT, Nat.reduceLeDiff, Nat.reduceEqDiff, Nat.reduceSub, decide_true, true_and, and_true, and_self, if_true, if_false, Option.toList_some, Option.toList_none, List.cons_append, List.nil_append, qsL, qlong, List.length_cons, List.length_nil, iN_L, vM1, vM2, exI, iN_add, iN_mul, iN_le, iN_lt, iN_eq, Nat.le_refl, qfN0, qfN1, show ¬ 4 ≤ 0 by omega, m1]
        simp (disch := first | assumption | omega) only [e287_0, e287_1, e287_2, e287_3, e287_5, e287_6, e287_10, e287_11, e287_14, e287_15, e287_16, e287_19, e287_20, e287_22, e287_23, e287_24, e287_25, e287_26, e287_29, e287_30, e287_34, e287_35, e287_38, e287_39, e287_42, e287_43, e287_46, e287_47, e287_49, e287_50, e287_52, e287_53, e287_54, e287_55, e287_57, e287_59, e287_62, e287_63, e287_64, e287_65, e287_67, e287_70, e287_71, e287_72, e287_73, e287_76, e287_81, e287_82, e287_85, e287_86, e287_89, e287_90, e287_91, e287_93, e287_94, e287_97, e287_99, e287_102, e287_103, e287_104, e287_107, e287_110, e287_111, e287_114, e287_115, e287_116, e287_117, e287_120, e287_121, e287_122, e287_123, e287_124, e287_125, e287_128, e287_131, e287_132, e287_133, e287_136, e287_137, e287_138, e287_139, e287_142, e287_143, e287_144, e287_145, e287_146, e287_147, e287_148, e287_149, e287_152, e287_155, e287_156, e287_157, e287_160, e287_161, e287_162, e287_163, e287_164, e287_165, e287_166, e287_167, e287_168, e287_169, e287_172, e287_173, e287_174, e287_177, e287_178, e287_179, e287_180, e287_181, e287_182, e287_183, e287_184, e287_185, e287_186, e287_189, e287_190, e287_191, e287_193, e287_195, e287_196, e287_199, e287_200, e287_201, e287_202, e287_203, e287_204, e287_205, e287_206, e287_207, e287_208, e287_211, e287_212, e287_213, e287_214, e287_217, e287_218, e287_219, e287_220, e287_221, e287_222, e287_223, e287_224, e287_225, e287_226, e287_229, e287_230, e287_231, e287_234, m287, ↓reduceIte, qg_0, qg_1, qg_2, qg_3, qg_4, qg_5, qg_6, qg_7, qg_8, qg_9, qg_10, qg_11, qg_12, qg_13, not_true_eq_false, not_false_eq_true, Nat.reduceBEq, Bool.false_eq_true, ex1, ex3, ex4, exF, qfit_i, qfit_l, qfit_r, qfit_n, qfit_b0, qfit_b1, qcat_i, qcat_r, qcat_n, qcat_l, qroom_0, qroom_c, List.map_cons, List.map_nil, List.sum_cons, List.sum_nil, Nat.reduceAdd, Nat.reduceMul, Nat.reduceLT, Nat.reduceLeDiff, Nat.reduceEqDiff, Nat.reduceSub, decide_true, true_and, and_true, and_self, if_true, if_false, Option.toList_some, Option.toList_none, List.cons_append, List.nil_append, qsL, qlong, List.length_cons, List.length_nil, iN_L, vM1, vM2, exI, iN_add, iN_mul, iN_le, iN_lt, iN_eq, Nat.le_refl, qfN0, qfN1, gM_2, rM_57, n57, show ¬ (cnr bs i).length ≤ c by omega, bt]
        rw [r1, e287_79]
        simp (disch := first | assumption | omega) only [e287_0, e287_1, e287_2, e287_3, e287_5, e287_6, e287_10, e287_11, e287_14, e287_15, e287_16, e287_19, e287_20, e287_22, e287_23, e287_24, e287_25, e287_26, e287_29, e287_30, e287_34, e287_35, e287_38, e287_39, e287_42, e287_43, e287_46, e287_47, e287_49, e287_50, e287_52, e287_53, e287_54, e287_55, e287_57, e287_59, e287_62, e287_63, e287_64, e287_65, e287_67, e287_70, e287_71, e287_72, e287_73, e287_76, e287_81, e287_82, e287_85, e287_86, e287_89, e287_90, e287_91, e287_93, e287_94, e287_97, e287_99, e287_102, e287_103, e287_104, e287_107, e287_110, e287_111, e287_114, e287_115, e287_116, e287_117, e287_120, e287_121, e287_122, e287_123, e287_124, e287_125, e287_128, e287_131, e287_132, e287_133, e287_136, e287_137, e287_138, e287_139, e287_142, e287_143, e287_144, e287_145, e287_146, e287_147, e287_148, e287_149, e287_152, e287_155, e287_156, e287_157, e287_160, e287_161, e287_162, e287_163, e287_164, e287_165, e287_166, e287_167, e287_168, e287_169, e287_172, e287_173, e287_174, e287_177, e287_178, e287_179, e287_180, e287_181, e287_182, e287_183, e287_184, e287_185, e287_186, e287_189, e287_190, e287_191, e287_193, e287_195, e287_196, e287_199, e287_200, e287_201, e287_202, e287_203, e287_204, e287_205, e287_206, e287_207, e287_208, e287_211, e287_212, e287_213, e287_214, e287_217, e287_218, e287_219, e287_220, e287_221, e287_222, e287_223, e287_224, e287_225, e287_226, e287_229, e287_230, e287_231, e287_234, m287, ↓reduceIte, qg_0, qg_1, qg_2, qg_3, qg_4, qg_5, qg_6, qg_7, qg_8, qg_9, qg_10, qg_11, qg_12, qg_13, not_true_eq_false, not_false_eq_true, Nat.reduceBEq, Bool.false_eq_true, ex1, ex3, ex4, exF, qfit_i, qfit_l, qfit_r, qfit_n, qfit_b0, qfit_b1, qcat_i, qcat_r, qcat_n, qcat_l, qroom_0, qroom_c, List.map_cons, List.map_nil, List.sum_cons, List.sum_nil, Nat.reduceAdd, Nat.reduceMul, Nat.reduceLT, Nat.reduceLeDiff, Nat.reduceEqDiff, Nat.reduceSub, decide_true, true_and, and_true, and_self, if_true, if_false, Option.toList_some, Option.toList_none, List.cons_append, List.nil_append, qsL, qlong, List.length_cons, List.length_nil, iN_L, vM1, vM2, exI, iN_add, iN_mul, iN_le, iN_lt, iN_eq, Nat.le_refl, qfN0, qfN1, m1, m2]
        try exact Iff.rfl
      · obtain ⟨f, ef⟩ : ∃ f, f = (mbr x (cnr bs i).length).getD 0 0 := ⟨_, rfl⟩
        have hf : f < (cnr bs i).length := by
          obtain ⟨k, k1, k2, k3, k4⟩ := pickN_get (fun c => x.testBit c) (n := (cnr bs i).length) (c := 0) (show 0 < pop x (cnr bs i).length by omega)
          rw [ef, show (mbr x (cnr bs i).length).getD 0 0 = k from k4]
          exact k1
        have e1 : fstV bs i x c = iN f := by rw [ef]; exact if_neg h0
        have e2 : fstV bs i x (c + 1) = iN f := by rw [ef]; exact if_neg (by omega)
        obtain ⟨h2, r2, c2, o2, n2⟩ := sz_row (d := d) (x := x) (e := pop x c - 1) s B hi' hf hc (by omega) 4 0 h1 (by omega) c1
        have v2 : EdV h2 (pop x (c + 1) - 1) (edE bs i x) := by
          intro r hr k hk
          by_cases er : r = pop x c - 1
          · subst er
            rw [n2 k (by omega) hk]
            unfold edE
            rw [show pop x c - 1 + 1 = pop x c by omega, mc, ← ef]
          · rw [o2 _ (by omega)]
            exact v r (by omega) k hk
        obtain ⟨h', y6, r, c', v'⟩ := ih (c + 1) h2 (some (.int (iN 4))) (by omega) c2 v2
        refine ⟨h', y6, fun R => ?_, c', v'⟩
        have nf : ¬ iN f < iN 0 := by rw [iN_lt (by omega) (by omega)]; omega
        have nf2 : iN 0 ≤ iN f := by rw [iN_le (by omega) (by omega)]; omega
        rw [← r R, e1, e2, show pop x (c + 1) - 1 = pop x c - 1 + 1 by omega, e287_8]
        simp (disch := first | assumption | omega) only [e287_0, e287_1, e287_2, e287_3, e287_5, e287_6, e287_10, e287_11, e287_14, e287_15, e287_16, e287_19, e287_20, e287_22, e287_23, e287_24, e287_25, e287_26, e287_29, e287_30, e287_34, e287_35, e287_38, e287_39, e287_42, e287_43, e287_46, e287_47, e287_49, e287_50, e287_52, e287_53, e287_54, e287_55, e287_57, e287_59, e287_62, e287_63, e287_64, e287_65, e287_67, e287_70, e287_71, e287_72, e287_73, e287_76, e287_81, e287_82, e287_85, e287_86, e287_89, e287_90, e287_91, e287_93, e287_94, e287_97, e287_99, e287_102, e287_103, e287_104, e287_107, e287_110, e287_111, e287_114, e287_115, e287_116, e287_117, e287_120, e287_121, e287_122, e287_123, e287_124, e287_125, e287_128, e287_131, e287_132, e287_133, e287_136, e287_137, e287_138, e287_139, e287_142, e287_143, e287_144, e287_145, e287_146, e287_147, e287_148, e287_149, e287_152, e287_155, e287_156, e287_157, e287_160, e287_161, e287_162, e287_163, e287_164, e287_165, e287_166, e287_167, e287_168, e287_169, e287_172, e287_173, e287_174, e287_177, e287_178, e287_179, e287_180, e287_181, e287_182, e287_183, e287_184, e287_185, e287_186, e287_189, e287_190, e287_191, e287_193, e287_195, e287_196, e287_199, e287_200, e287_201, e287_202, e287_203, e287_204, e287_205, e287_206, e287_207, e287_208, e287_211, e287_212, e287_213, e287_214, e287_217, e287_218, e287_219, e287_220, e287_221, e287_222, e287_223, e287_224, e287_225, e287_226, e287_229, e287_230, e287_231, e287_234, m287, ↓reduceIte, qg_0, qg_1, qg_2, qg_3, qg_4, qg_5, qg_6, qg_7, qg_8, qg_9, qg_10, qg_11, qg_12, qg_13, not_true_eq_false, not_false_eq_true, Nat.reduceBEq, Bool.false_eq_true, ex1, ex3, ex4, exF, qfit_i, qfit_l, qfit_r, qfit_n, qfit_b0, qfit_b1, qcat_i, qcat_r, qcat_n, qcat_l, qroom_0, qroom_c, List.map_cons, List.map_nil, List.sum_cons, List.sum_nil, Nat.reduceAdd, Nat.reduceMul, Nat.reduceLT, Nat.reduceLeDiff, Nat.reduceEqDiff, Nat.reduceSub, decide_true, true_and, and_true, and_self, if_true, if_false, Option.toList_some, Option.toList_none, List.cons_append, List.nil_append, qsL, qlong, List.length_cons, List.length_nil, iN_L, vM1, vM2, exI, iN_le, iN_eq, gM_2, rM_57, n57, show ¬ (cnr bs i).length ≤ c by omega, bt]
        rw [r2, e287_79]
        simp (disch := first | assumption | omega) only [e287_0, e287_1, e287_2, e287_3, e287_5, e287_6, e287_10, e287_11, e287_14, e287_15, e287_16, e287_19, e287_20, e287_22, e287_23, e287_24, e287_25, e287_26, e287_29, e287_30, e287_34, e287_35, e287_38, e287_39, e287_42, e287_43, e287_46, e287_47, e287_49, e287_50, e287_52, e287_53, e287_54, e287_55, e287_57, e287_59, e287_62, e287_63, e287_64, e287_65, e287_67, e287_70, e287_71, e287_72, e287_73, e287_76, e287_81, e287_82, e287_85, e287_86, e287_89, e287_90, e287_91, e287_93, e287_94, e287_97, e287_99, e287_102, e287_103, e287_104, e287_107, e287_110, e287_111, e287_114, e287_115, e287_116, e287_117, e287_120, e287_121, e287_122, e287_123, e287_124, e287_125, e287_128, e287_131, e287_132, e287_133, e287_136, e287_137, e287_138, e287_139, e287_142, e287_143, e287_144, e287_145, e287_146, e287_147, e287_148, e287_149, e287_152, e287_155, e287_156, e287_157, e287_160, e287_161, e287_162, e287_163, e287_164, e287_165, e287_166, e287_167, e287_168, e287_169, e287_172, e287_173, e287_174, e287_177, e287_178, e287_179, e287_180, e287_181, e287_182, e287_183, e287_184, e287_185, e287_186, e287_189, e287_190, e287_191, e287_193, e287_195, e287_196, e287_199, e287_200, e287_201, e287_202, e287_203, e287_204, e287_205, e287_206, e287_207, e287_208, e287_211, e287_212, e287_213, e287_214, e287_217, e287_218, e287_219, e287_220, e287_221, e287_222, e287_223, e287_224, e287_225, e287_226, e287_229, e287_230, e287_231, e287_234, m287, ↓reduceIte, qg_0, qg_1, qg_2, qg_3, qg_4, qg_5, qg_6, qg_7, qg_8, qg_9, qg_10, qg_11, qg_12, qg_13, not_true_eq_false, not_false_eq_true, Nat.reduceBEq, Bool.false_eq_true, ex1, ex3, ex4, exF, qfit_i, qfit_l, qfit_r, qfit_n, qfit_b0, qfit_b1, qcat_i, qcat_r, qcat_n, qcat_l, qroom_0, qroom_c, List.map_cons, List.map_nil, List.sum_cons, List.sum_nil, Nat.reduceAdd, Nat.reduceMul, Nat.reduceLT, Nat.reduceLeDiff, Nat.reduceEqDiff, Nat.reduceSub, decide_true, true_and, and_true, and_self, if_true, if_false, Option.toList_some, Option.toList_none, List.cons_append, List.nil_append, qsL, qlong, List.length_cons, List.length_nil, iN_L, vM1, vM2, exI, iN_add, nf, nf2]
theorem edE_b {x : Nat} (B : BsM h bs) (hi' : i < bs.length) (hp : pop x (cnr bs i).length = dmn bs i + 1) : ∀ r k, r < dmn bs i → k < 4 → -1998 ≤ edE bs i x r k ∧ edE bs i x r k ≤ 1998 := by
  have mb : ∀ t, t < pop x (cnr bs i).length → (mbr x (cnr bs i).length).getD t 0 < (cnr bs i).length := fun t ht => by
    obtain ⟨k, k1, k2, k3, k4⟩ := pickN_get (fun c => x.testBit c) (n := (cnr bs i).length) (c := t) ht
    rw [show (mbr x (cnr bs i).length).getD t 0 = k from k4]
    exact k1
  intro r k hr hk
  have a := ((B.corn hi').2.2 _ (mb (r + 1) (by omega)) k hk).2
  have b := ((B.corn hi').2.2 _ (mb 0 (by omega)) k hk).2
  unfold edE
  omega
/-- the size of a piece -/
noncomputable def szP (bs : List bdy) (i x : Nat) : Nat := (deD (dmn bs i) (edE bs i x)).natAbs
set_option maxRecDepth 100000 in
set_option maxHeartbeats 16000000 in
theorem s_sizeOf {x : Nat} (s : ShM h) (B : BsM h bs) (hi' : i < bs.length) (hx : x < 65536) (hp : pop x (cnr bs i).length = dmn bs i + 1) : ∃ h', (∀ R, qMC (d + 3) 287 [.ref 55, .int (iN i), .int (iN x)] h R ↔ R = (some (.long (lZ (szP bs i x))), h')) ∧ Ch [90] [] h h' := by
  have b24 := B.1
  have li := (B.corn hi').2.1
  obtain ⟨di, di2, di4⟩ := B.dim hi'
  obtain ⟨h1, y6, r1, c1, v1⟩ := sz_rows (d := d) (x := x) s B hi' hx (by omega) (cnr bs i).length 0 h none (by omega) (Ch.refl s) (fun r hr => absurd hr (Nat.not_lt_zero r))
  have s1 := c1.sh
  rw [hp, Nat.add_sub_cancel] at v1 r1
  have n57 : hi h1 57 i = iN (cnr bs i).length := by rw [c1.hi (by decide) (by decide)]; exact (B.corn hi').1
  have n56 : hi h1 56 i = iN (dmn bs i) := by rw [c1.hi (by decide) (by decide)]; exact di
  obtain ⟨E, eE⟩ : ∃ E, E = edE bs i x := ⟨_, rfl⟩
  have bE := edE_b (x := x) B hi' hp
  rw [← eE] at v1 bE
  have bD := deD_b ⟨di2, di4⟩ bE
  have lBd : lB (deD (dmn bs i) E) := ⟨by omega, by omega⟩
  have szd : ∀ R, qMC (d + 2) 190 [.long (lZ (deD (dmn bs i) E))] h1 R ↔ _ := fun R => s_sized (d := d + 1) lBd
  obtain ⟨fv, efv⟩ : ∃ fv, fv = fstV bs i x (cnr bs i).length := ⟨_, rfl⟩
  rw [← efv] at r1
  refine ⟨h1, fun R => ?_, c1⟩
  have r0 : qMC (d + 3) 287 [.ref 55, .int (iN i), .int (iN x)] h R ↔ qEv (d + 2) 1 qk_287 8 [some (.ref 55), some (.int (iN i)), some (.int (iN x)), some (.int (fstV bs i x 0)), some (.int (iN (pop x 0 - 1))), some (.int (iN 0)), none] [] h R := by
    rw [show fstV bs i x 0 = -iN 1 from if_pos rfl, show pop x 0 - 1 = 0 from rfl]
    simp (disch := first | assumption | omega) only [e287_0, e287_1, e287_2, e287_3, e287_5, e287_6, e287_10, e287_11, e287_14, e287_15, e287_16, e287_19, e287_20, e287_22, e287_23, e287_24, e287_25, e287_26, e287_29, e287_30, e287_34, e287_35, e287_38, e287_39, e287_42, e287_43, e287_46, e287_47, e287_49, e287_50, e287_52, e287_53, e287_54, e287_55, e287_57, e287_59, e287_62, e287_63, e287_64, e287_65, e287_67, e287_70, e287_71, e287_72, e287_73, e287_76, e287_81, e287_82, e287_85, e287_86, e287_89, e287_90, e287_91, e287_93, e287_94, e287_97, e287_99, e287_102, e287_103, e287_104, e287_107, e287_110, e287_111, e287_114, e287_115, e287_116, e287_117, e287_120, e287_121, e287_122, e287_123, e287_124, e287_125, e287_128, e287_131, e287_132, e287_133, e287_136, e287_137, e287_138, e287_139, e287_142, e287_143, e287_144, e287_145, e287_146, e287_147, e287_148, e287_149, e287_152, e287_155, e287_156, e287_157, e287_160, e287_161, e287_162, e287_163, e287_164, e287_165, e287_166, e287_167, e287_168, e287_169, e287_172, e287_173, e287_174, e287_177, e287_178, e287_179, e287_180, e287_181, e287_182, e287_183, e287_184, e287_185, e287_186, e287_189, e287_190, e287_191, e287_193, e287_195, e287_196, e287_199, e287_200, e287_201, e287_202, e287_203, e287_204, e287_205, e287_206, e287_207, e287_208, e287_211, e287_212, e287_213, e287_214, e287_217, e287_218, e287_219, e287_220, e287_221, e287_222, e287_223, e287_224, e287_225, e287_226, e287_229, e287_230, e287_231, e287_234, m287, ↓reduceIte, qg_0, qg_1, qg_2, qg_3, qg_4, qg_5, qg_6, qg_7, qg_8, qg_9, qg_10, qg_11, qg_12, qg_13, not_true_eq_false, not_false_eq_true, Nat.reduceBEq, Bool.false_eq_true, ex1, ex3, ex4, exF, qfit_i, qfit_l, qfit_r, qfit_n, qfit_b0, qfit_b1, qcat_i, qcat_r, qcat_n, qcat_l, qroom_0, qroom_c, List.map_cons, List.map_nil, List.sum_cons, List.sum_nil, Nat.reduceAdd, Nat.reduceMul, Nat.reduceLT, Nat.reduceLeDiff, Nat.reduceEqDiff, Nat.reduceSub, decide_true, true_and, and_true, and_self, if_true, if_false, Option.toList_some, Option.toList_none, List.cons_append, List.nil_append, qsL, qlong, List.length_cons, List.length_nil, iN_L, vM1, vM2, exI, iN_add, iN_mul, iN_le, iN_lt, iN_eq, Nat.le_refl, qfN0, qfN1]
  rw [r0, r1 R, e287_8]
  unfold szP
  rw [← eE]
  by_cases h2 : dmn bs i = 2
  · have q : ∀ R, qMC (d + 2) 285 [.ref 55, .int (iN 0), .int (iN 1), .int (iN 0), .int (iN 1)] h1 R ↔ _ := fun R => s_square (d := d + 1) s1 v1 di4 (show 0 < dmn bs i by omega) (show 1 < dmn bs i by omega) (show 0 < 4 by omega) (show 1 < 4 by omega) R
    have ed : deD (dmn bs i) E = sq2 E 0 1 0 1 := if_pos h2
    rw [ed] at szd ⊢
    simp (disch := first | assumption | omega) only [e287_0, e287_1, e287_2, e287_3, e287_5, e287_6, e287_10, e287_11, e287_14, e287_15, e287_16, e287_19, e287_20, e287_22, e287_23, e287_24, e287_25, e287_26, e287_29, e287_30, e287_34, e287_35, e287_38, e287_39, e287_42, e287_43, e287_46, e287_47, e287_49, e287_50, e287_52, e287_53, e287_54, e287_55, e287_57, e287_59, e287_62, e287_63, e287_64, e287_65, e287_67, e287_70, e287_71, e287_72, e287_73, e287_76, e287_81, e287_82, e287_85, e287_86, e287_89, e287_90, e287_91, e287_93, e287_94, e287_97, e287_99, e287_102, e287_103, e287_104, e287_107, e287_110, e287_111, e287_114, e287_115, e287_116, e287_117, e287_120, e287_121, e287_122, e287_123, e287_124, e287_125, e287_128, e287_131, e287_132, e287_133, e287_136, e287_137, e287_138, e287_139, e287_142, e287_143, e287_144, e287_145, e287_146, e287_147, e287_148, e287_149, e287_152, e287_155, e287_156, e287_157, e287_160, e287_161, e287_162, e287_163, e287_164, e287_165, e287_166, e287_167, e287_168, e287_169, e287_172, e287_173, e287_174, e287_177, e287_178, e287_179, e287_180, e287_181, e287_182, e287_183, e287_184, e287_185, e287_186, e287_189, e287_190, e287_191, e287_193, e287_195, e287_196, e287_199, e287_200, e287_201, e287_202, e287_203, e287_204, e287_205, e287_206, e287_207, e287_208, e287_211, e287_212, e287_213, e287_214, e287_217, e287_218, e287_219, e287_220, e287_221, e287_222, e287_223, e287_224, e287_225, e287_226, e287_229, e287_230, e287_231, e287_234, m287, ↓reduceIte, qg_0, qg_1, qg_2, qg_3, qg_4, qg_5, qg_6, qg_7, qg_8, qg_9, qg_10, qg_11, qg_12, qg_13, not_true_eq_false, not_false_eq_true, Nat.reduceBEq, Bool.false_eq_true, ex1, ex3, ex4, exF, qfit_i, qfit_l, qfit_r, qfit_n, qfit_b0, qfit_b1, qcat_i, qcat_r, qcat_n, qcat_l, qroom_0, qroom_c, List.map_cons, List.map_nil, List.sum_cons, List.sum_nil, Nat.reduceAdd, Nat.reduceMul, Nat.reduceLT, Nat.reduceLeDiff, Nat.reduceEqDiff, Nat.reduceSub, decide_true, true_and, and_true, and_self, if_true, if_false, Option.toList_some, Option.toList_none, List.cons_append, List.nil_append, qsL, qlong, List.length_cons, List.length_nil, iN_L, vM1, vM2, exI, iN_add, iN_mul, iN_le, iN_lt, iN_eq, Nat.le_refl, qfN0, qfN1, gM_2, rM_57, n57, gM_1, rM_56, n56, h2, q, szd]
  · by_cases h3 : dmn bs i = 3
    · have q : ∀ R, qMC (d + 2) 286 [.ref 55, .int (iN 0), .int (iN 1), .int (iN 2), .int (iN 0), .int (iN 1), .int (iN 2)] h1 R ↔ _ := fun R => s_cube (d := d) s1 v1 di4 (show 0 < dmn bs i by omega) (show 1 < dmn bs i by omega) (show 2 < dmn bs i by omega) (show 0 < 4 by omega) (show 1 < 4 by omega) (show 2 < 4 by omega) R
      have ed : deD (dmn bs i) E = cu3 E 0 1 2 0 1 2 := by unfold deD; rw [if_neg h2, if_pos h3]
      rw [ed] at szd ⊢
      simp (disch := first | assumption | omega) only [e287_0, e287_1, e287_2, e287_3, e287_5, e287_6, e287_10, e287_11, e287_14, e287_15, e287_16, e287_19, e287_20, e287_22, e287_23, e287_24, e287_25, e287_26, e287_29, e287_30, e287_34, e287_35, e287_38, e287_39, e287_42, e287_43, e287_46, e287_47, e287_49, e287_50, e287_52, e287_53, e287_54, e287_55, e287_57, e287_59, e287_62, e287_63, e287_64, e287_65, e287_67, e287_70, e287_71, e287_72, e287_73, e287_76, e287_81, e287_82, e287_85, e287_86, e287_89, e287_90, e287_91, e287_93, e287_94, e287_97, e287_99, e287_102, e287_103, e287_104, e287_107, e287_110, e287_111, e287_114, e287_115, e287_116, e287_117, e287_120, e287_121, e287_122, e287_123, e287_124, e287_125, e287_128, e287_131, e287_132, e287_133, e287_136, e287_137, e287_138, e287_139, e287_142, e287_143, e287_144, e287_145, e287_146, e287_147, e287_148, e287_149, e287_152, e287_155, e287_156, e287_157, e287_160, e287_161, e287_162, e287_163, e287_164, e287_165, e287_166, e287_167, e287_168, e287_169, e287_172, e287_173, e287_174, e287_177, e287_178, e287_179, e287_180, e287_181, e287_182, e287_183, e287_184, e287_185, e287_186, e287_189, e287_190, e287_191, e287_193, e287_195, e287_196, e287_199, e287_200, e287_201, e287_202, e287_203, e287_204, e287_205, e287_206, e287_207, e287_208, e287_211, e287_212, e287_213, e287_214, e287_217, e287_218, e287_219, e287_220, e287_221, e287_222, e287_223, e287_224, e287_225, e287_226, e287_229, e287_230, e287_231, e287_234, m287, ↓reduceIte, qg_0, qg_1, qg_2, qg_3, qg_4, qg_5, qg_6, qg_7, qg_8, qg_9, qg_10, qg_11, qg_12, qg_13, not_true_eq_false, not_false_eq_true, Nat.reduceBEq, Bool.false_eq_true, ex1, ex3, ex4, exF, qfit_i, qfit_l, qfit_r, qfit_n, qfit_b0, qfit_b1, qcat_i, qcat_r, qcat_n, qcat_l, qroom_0, qroom_c, List.map_cons, List.map_nil, List.sum_cons, List.sum_nil, Nat.reduceAdd, Nat.reduceMul, Nat.reduceLT, Nat.reduceLeDiff, Nat.reduceEqDiff, Nat.reduceSub, decide_true, true_and, and_true, and_self, if_true, if_false, Option.toList_some, Option.toList_none, List.cons_append, List.nil_append, qsL, qlong, List.length_cons, List.length_nil, iN_L, vM1, vM2, exI, iN_add, iN_mul, iN_le, iN_lt, iN_eq, Nat.le_refl, qfN0, qfN1, gM_2, rM_57, n57, gM_1, rM_56, n56, h2, h3, show ¬ (3 : Nat) = 2 by decide, q, szd]
    · have h4 : dmn bs i = 4 := by omega
      have q1 : ∀ R, qMC (d + 2) 286 [.ref 55, .int (iN 1), .int (iN 2), .int (iN 3), .int (iN 1), .int (iN 2), .int (iN 3)] h1 R ↔ _ := fun R => s_cube (d := d) s1 v1 di4 (show 1 < dmn bs i by omega) (show 2 < dmn bs i by omega) (show 3 < dmn bs i by omega) (show 1 < 4 by omega) (show 2 < 4 by omega) (show 3 < 4 by omega) R
      have q2 : ∀ R, qMC (d + 2) 286 [.ref 55, .int (iN 1), .int (iN 2), .int (iN 3), .int (iN 0), .int (iN 2), .int (iN 3)] h1 R ↔ _ := fun R => s_cube (d := d) s1 v1 di4 (show 1 < dmn bs i by omega) (show 2 < dmn bs i by omega) (show 3 < dmn bs i by omega) (show 0 < 4 by omega) (show 2 < 4 by omega) (show 3 < 4 by omega) R
      have q3 : ∀ R, qMC (d + 2) 286 [.ref 55, .int (iN 1), .int (iN 2), .int (iN 3), .int (iN 0), .int (iN 1), .int (iN 3)] h1 R ↔ _ := fun R => s_cube (d := d) s1 v1 di4 (show 1 < dmn bs i by omega) (show 2 < dmn bs i by omega) (show 3 < dmn bs i by omega) (show 0 < 4 by omega) (show 1 < 4 by omega) (show 3 < 4 by omega) R
      have q4 : ∀ R, qMC (d + 2) 286 [.ref 55, .int (iN 1), .int (iN 2), .int (iN 3), .int (iN 0), .int (iN 1), .int (iN 2)] h1 R ↔ _ := fun R => s_cube (d := d) s1 v1 di4 (show 1 < dmn bs i by omega) (show 2 < dmn bs i by omega) (show 3 < dmn bs i by omega) (show 0 < 4 by omega) (show 1 < 4 by omega) (show 2 < 4 by omega) R
      have ed : deD (dmn bs i) E = E 0 0 * cu3 E 1 2 3 1 2 3 - E 0 1 * cu3 E 1 2 3 0 2 3 + E 0 2 * cu3 E 1 2 3 0 1 3 - E 0 3 * cu3 E 1 2 3 0 1 2 := by unfold deD; rw [if_neg h2, if_neg h3]; rfl
      rw [ed] at szd ⊢
      have a0 : hl h1 90 0 = lZ (E 0 0) := v1 0 (by omega) 0 (by omega)
      have a1 : hl h1 90 1 = lZ (E 0 1) := v1 0 (by omega) 1 (by omega)
      have a2 : hl h1 90 2 = lZ (E 0 2) := v1 0 (by omega) 2 (by omega)
      have a3 : hl h1 90 3 = lZ (E 0 3) := v1 0 (by omega) 3 (by omega)
      simp (disch := first | assumption | omega) only [e287_0, e287_1, e287_2, e287_3, e287_5, e287_6, e287_10, e287_11, e287_14, e287_15, e287_16, e287_19, e287_20, e287_22, e287_23, e287_24, e287_25, e287_26, e287_29, e287_30, e287_34, e287_35, e287_38, e287_39, e287_42, e287_43, e287_46, e287_47, e287_49, e287_50, e287_52, e287_53, e287_54, e287_55, e287_57, e287_59, e287_62, e287_63, e287_64, e287_65, e287_67, e287_70, e287_71, e287_72, e287_73, e287_76, e287_81, e287_82, e287_85, e287_86, e287_89, e287_90, e287_91, e287_93, e287_94, e287_97, e287_99, e287_102, e287_103, e287_104, e287_107, e287_110, e287_111, e287_114, e287_115, e287_116, e287_117, e287_120, e287_121, e287_122, e287_123, e287_124, e287_125, e287_128, e287_131, e287_132, e287_133, e287_136, e287_137, e287_138, e287_139, e287_142, e287_143, e287_144, e287_145, e287_146, e287_147, e287_148, e287_149, e287_152, e287_155, e287_156, e287_157, e287_160, e287_161, e287_162, e287_163, e287_164, e287_165, e287_166, e287_167, e287_168, e287_169, e287_172, e287_173, e287_174, e287_177, e287_178, e287_179, e287_180, e287_181, e287_182, e287_183, e287_184, e287_185, e287_186, e287_189, e287_190, e287_191, e287_193, e287_195, e287_196, e287_199, e287_200, e287_201, e287_202, e287_203, e287_204, e287_205, e287_206, e287_207, e287_208, e287_211, e287_212, e287_213, e287_214, e287_217, e287_218, e287_219, e287_220, e287_221, e287_222, e287_223, e287_224, e287_225, e287_226, e287_229, e287_230, e287_231, e287_234, m287, ↓reduceIte, qg_0, qg_1, qg_2, qg_3, qg_4, qg_5, qg_6, qg_7, qg_8, qg_9, qg_10, qg_11, qg_12, qg_13, not_true_eq_false, not_false_eq_true, Nat.reduceBEq, Bool.false_eq_true, ex1, ex3, ex4, exF, qfit_i, qfit_l, qfit_r, qfit_n, qfit_b0, qfit_b1, qcat_i, qcat_r, qcat_n, qcat_l, qroom_0, qroom_c, List.map_cons, List.map_nil, List.sum_cons, List.sum_nil, Nat.reduceAdd, Nat.reduceMul, Nat.reduceLT, Nat.reduceLeDiff, Nat.reduceEqDiff, Nat.reduceSub, decide_true, true_and, and_true, and_self, if_true, if_false, Option.toList_some, Option.toList_none, List.cons_append, List.nil_append, qsL, qlong, List.length_cons, List.length_nil, iN_L, vM1, vM2, exI, iN_add, iN_mul, iN_le, iN_lt, iN_eq, Nat.le_refl, qfN0, qfN1, gM_2, rM_57, n57, gM_1, rM_56, n56, h4, show ¬ (4 : Nat) = 2 by decide, show ¬ (4 : Nat) = 3 by decide, gM_47, rM_90, a0, a1, a2, a3, q1, q2, q3, q4, lZ_mul, lZ_sub, lZ_add, szd]
end SIZE

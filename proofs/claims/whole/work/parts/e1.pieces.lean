/-! ===== THE REFERENCE: wait, findPieces ===== -/
section PIECES
variable {d : Nat} {h : qH} {bs : List bdy} {i : Nat}
/-- the lowest member -/
def low (x : Nat) : Nat := x &&& (4294967296 - x)
theorem iN_low {x : Nat} (hx : x ≤ 4294967296) : iN x &&& -iN x = iN (low x) := by
  have : -iN x = iN (4294967296 - x) := by
    have e : iN x + iN (4294967296 - x) = 0 := by
      rw [iN_add, show x + (4294967296 - x) = 4294967296 by omega]
      decide
    have : iN (4294967296 - x) = -iN x + (iN x + iN (4294967296 - x)) := by rw [← Int32.add_assoc, Int32.add_left_neg, Int32.zero_add]
    rw [this, e, Int32.add_zero]
  rw [this, iN_and]
  rfl
theorem low_le {x : Nat} : low x ≤ x := Nat.and_le_left
/-- what hangs below a face: its own faces without its lowest corner -/
def blwB (x y : Nat) : Bool := decide (wo y x = 0) && decide (y &&& low x = 0)
noncomputable def pcs (bs : List bdy) (i : Nat) : Nat → Nat → Nat → List Nat
  | 0, x, u => [x ||| u]
  | k + 1, x, u => if pop x 24 = k + 2 then [x ||| u] else ((cel bs i k).filter (blwB x)).flatMap fun y => pcs bs i k y (u ||| low x)
abbrev trp : Type := Nat × Nat × Nat
def PcV (h : qH) (st : List trp) (out : List Nat) : Prop := mi h 43 = iN st.length ∧ mi h 41 = iN out.length ∧ (∀ t, t < st.length → hi h 87 t = iN (st.getD t (0, 0, 0)).1 ∧ hi h 88 t = iN (st.getD t (0, 0, 0)).2.1 ∧ hi h 89 t = iN (st.getD t (0, 0, 0)).2.2) ∧ ∀ t, t < out.length → hi h 86 t = iN (out.getD t 0)
theorem getD_add {α : Type} {l : List α} {a z : α} {t : Nat} : (l ++ [a]).getD t z = if t = l.length then a else l.getD t z := by
  rw [List.getD_eq_getElem?_getD, List.getD_eq_getElem?_getD]
  by_cases e : t = l.length
  · subst e
    rw [if_pos rfl, List.getElem?_append_right (Nat.le_refl _), Nat.sub_self]
    rfl
  · rw [if_neg e]
    by_cases w : t < l.length
    · rw [List.getElem?_append_left w]
    · rw [List.getElem?_eq_none (show l.length ≤ t by omega), List.getElem?_eq_none (show (l ++ [a]).length ≤ t by rw [List.length_append]; show l.length + 1 ≤ t; omega)]
theorem len_add {α : Type} {l : List α} {a : α} : (l ++ [a]).length = l.length + 1 := by rw [List.length_append]; rfl
set_option maxRecDepth 100000 in
set_option maxHeartbeats 16000000 in
theorem s_wait {x k u : Nat} {st : List trp} {out : List Nat} (s : ShM h) (v : PcV h st out) (hl : st.length < 4000) : ∃ h', (∀ R, qMC (d + 1) 283 [.ref 55, .int (iN x), .int (iN k), .int (iN u)] h R ↔ R = (none, h')) ∧ Ch [86, 87, 88, 89] [41, 43] h h' ∧ PcV h' (st ++ [(x, k, u)]) out := by
  obtain ⟨m43, m41, vs, vo⟩ := v
  obtain ⟨g1, e1⟩ : ∃ g1, g1 = sI h 87 (upd (hi h 87) st.length (iN x)) := ⟨_, rfl⟩
  have c1 : Ch [86, 87, 88, 89] [41, 43] h g1 := by rw [e1]; exact Ch.rowI s (kM_87 s) (by decide)
  have s1 := c1.sh
  obtain ⟨g2, e2⟩ : ∃ g2, g2 = sI g1 88 (upd (hi g1 88) st.length (iN k)) := ⟨_, rfl⟩
  have c2 : Ch [86, 87, 88, 89] [41, 43] h g2 := c1.trans (by rw [e2]; exact Ch.rowI s1 (kM_88 s1) (by decide))
  have s2 := c2.sh
  obtain ⟨g3, e3⟩ : ∃ g3, g3 = sI g2 89 (upd (hi g2 89) st.length (iN u)) := ⟨_, rfl⟩
  have c3 : Ch [86, 87, 88, 89] [41, 43] h g3 := c2.trans (by rw [e3]; exact Ch.rowI s2 (kM_89 s2) (by decide))
  have s3 := c3.sh
  obtain ⟨g4, e4⟩ : ∃ g4, g4 = mI g3 43 (iN (st.length + 1)) := ⟨_, rfl⟩
  have c4 : Ch [86, 87, 88, 89] [41, 43] h g4 := c3.trans (by rw [e4]; exact Ch.setI s3 (by decide) (by decide))
  have m1 : mi g1 43 = iN st.length := by rw [e1, mi_sI (kM_87 s), m43]
  have m2 : mi g2 43 = iN st.length := by rw [e2, mi_sI (kM_88 s1), m1]
  have m3 : mi g3 43 = iN st.length := by rw [e3, mi_sI (kM_89 s2), m2]
  refine ⟨g4, fun R => ?_, c4, ?_, ?_, fun t ht => ?_, fun t ht => ?_⟩
  · simp (disch := first | assumption | omega) only [e283_0, e283_1, e283_4, e283_5, e283_8, e283_9, e283_10, e283_11, e283_14, e283_15, e283_18, e283_19, e283_20, e283_21, e283_24, e283_25, e283_28, e283_29, e283_30, e283_31, e283_32, e283_35, e283_36, e283_37, e283_40, m283, ↓reduceIte, qg_0, qg_1, qg_2, qg_3, qg_4, qg_5, qg_6, qg_7, qg_8, qg_9, qg_10, qg_11, qg_12, qg_13, not_true_eq_false, not_false_eq_true, Nat.reduceBEq, Bool.false_eq_true, ex1, ex3, ex4, exF, qfit_i, qfit_l, qfit_r, qfit_n, qfit_b0, qfit_b1, qcat_i, qcat_r, qcat_n, qcat_l, qroom_0, qroom_c, List.map_cons, List.map_nil, List.sum_cons, List.sum_nil, Nat.reduceAdd, Nat.reduceMul, Nat.reduceLT, Nat.reduceLeDiff, Nat.reduceEqDiff, Nat.reduceSub, decide_true, true_and, and_true, and_self, if_true, if_false, Option.toList_some, Option.toList_none, List.cons_append, List.nil_append, qsL, qlong, List.length_cons, List.length_nil, iN_L, vM1, vM2, exI, iN_add, iN_mul, iN_le, iN_lt, iN_eq, Nat.le_refl, qfN0, qfN1, gM_44, gM_43, m43, wM_87, ← e1, gM_45, m1, wM_88, ← e2, gM_46, m2, wM_89, ← e3, m3, pM_43, ← e4]
  · rw [e4, mi_mI, if_pos rfl, len_add]
  · rw [e4, mi_mI, if_neg (by decide), e3, mi_sI (kM_89 s2), e2, mi_sI (kM_88 s1), e1, mi_sI (kM_87 s), m41]
  · rw [len_add] at ht
    have a87 : hi g4 87 t = upd (hi h 87) st.length (iN x) t := by rw [e4, hi_mI s3, e3, hi_sI, if_neg (by decide), e2, hi_sI, if_neg (by decide), e1, hi_sI, if_pos rfl]
    have a88 : hi g4 88 t = upd (hi h 88) st.length (iN k) t := by rw [e4, hi_mI s3, e3, hi_sI, if_neg (by decide), e2, hi_sI, if_pos rfl, e1, hi_sI, if_neg (by decide)]
    have a89 : hi g4 89 t = upd (hi h 89) st.length (iN u) t := by rw [e4, hi_mI s3, e3, hi_sI, if_pos rfl, e2, hi_sI, if_neg (by decide), e1, hi_sI, if_neg (by decide)]
    rw [a87, a88, a89, upd_at, upd_at, upd_at, getD_add]
    by_cases e : t = st.length
    · rw [if_pos e, if_pos e, if_pos e, if_pos e]; exact ⟨rfl, rfl, rfl⟩
    · rw [if_neg e, if_neg e, if_neg e, if_neg e]; exact vs t (by omega)
  · rw [e4, hi_mI s3, e3, hi_sI, if_neg (by decide), e2, hi_sI, if_neg (by decide), e1, hi_sI, if_neg (by decide)]
    exact vo t ht
theorem kv_sub (j : Nat) : iN j - iN 1 = kv j := by rw [Int32.sub_eq_add_neg]; exact kv_dec' j
set_option maxRecDepth 100000 in
set_option maxHeartbeats 16000000 in
theorem pc_pop {x k u : Nat} {st : List trp} {out : List Nat} (x2 x3 x4 x5 x6 x7 : Option Value) (s : ShM h) (v : PcV h (st ++ [(x, k, u)]) out) (hl : st.length < 4000) : ∃ h', (∀ R, qEv (d + 3) 0 qk_284 31 [some (.ref 55), some (.int (iN i)), x2, x3, x4, x5, x6, x7] [] h R ↔ qEv (d + 3) 0 qk_284 79 [some (.ref 55), some (.int (iN i)), some (.int (iN x)), some (.int (iN k)), some (.int (iN u)), x5, x6, x7] [] h' R) ∧ Ch [86, 87, 88, 89] [41, 43] h h' ∧ PcV h' st out := by
  obtain ⟨m43, m41, vs, vo⟩ := v
  rw [len_add] at m43 vs
  obtain ⟨g1, e1⟩ : ∃ g1, g1 = mI h 43 (iN st.length) := ⟨_, rfl⟩
  have c1 : Ch [86, 87, 88, 89] [41, 43] h g1 := by rw [e1]; exact Ch.setI s (by decide) (by decide)
  have s1 := c1.sh
  have m1 : mi g1 43 = iN st.length := by rw [e1, mi_mI, if_pos rfl]
  have ht := vs st.length (by omega)
  rw [getD_add, if_pos rfl] at ht
  obtain ⟨t1, t2, t3⟩ := ht
  have hg : ∀ b, hi g1 b = hi h b := fun b => by rw [e1, hi_mI s]
  refine ⟨g1, fun R => ?_, c1, m1, ?_, fun t ht => ?_, fun t ht => ?_⟩
  · have q1 : hi g1 87 st.length = iN x := by rw [hg]; exact t1
    have q2 : hi g1 88 st.length = iN k := by rw [hg]; exact t2
    have q3 : hi g1 89 st.length = iN u := by rw [hg]; exact t3
    have sb : iN (st.length + 1) - iN 1 = iN st.length := iN_sub (by omega)
    rw [e284_31]
    simp (disch := first | assumption | omega) only [e284_0, e284_1, e284_2, e284_5, e284_6, e284_7, e284_10, e284_11, e284_12, e284_13, e284_16, e284_17, e284_18, e284_19, e284_20, e284_21, e284_22, e284_25, e284_26, e284_27, e284_28, e284_32, e284_35, e284_38, e284_39, e284_40, e284_43, e284_44, e284_45, e284_48, e284_49, e284_52, e284_53, e284_56, e284_57, e284_58, e284_59, e284_62, e284_63, e284_66, e284_67, e284_68, e284_69, e284_72, e284_73, e284_76, e284_77, e284_80, e284_83, e284_84, e284_85, e284_86, e284_89, e284_90, e284_93, e284_94, e284_97, e284_98, e284_100, e284_101, e284_102, e284_103, e284_104, e284_107, e284_108, e284_109, e284_112, e284_115, e284_116, e284_117, e284_118, e284_119, e284_121, e284_122, e284_123, e284_124, e284_125, e284_126, e284_129, e284_130, e284_131, e284_133, e284_135, e284_138, e284_139, e284_140, e284_141, e284_142, e284_143, e284_145, e284_148, e284_150, e284_152, e284_153, e284_154, e284_155, e284_156, e284_159, e284_161, e284_163, e284_164, e284_167, e284_168, e284_170, e284_171, e284_172, e284_173, e284_175, e284_177, e284_178, e284_181, e284_184, e284_187, e284_190, e284_191, e284_194, m284, ↓reduceIte, qg_0, qg_1, qg_2, qg_3, qg_4, qg_5, qg_6, qg_7, qg_8, qg_9, qg_10, qg_11, qg_12, qg_13, not_true_eq_false, not_false_eq_true, Nat.reduceBEq, Bool.false_eq_true, ex1, ex3, ex4, exF, qfit_i, qfit_l, qfit_r, qfit_n, qfit_b0, qfit_b1, qcat_i, qcat_r, qcat_n, qcat_l, qroom_0, qroom_c, List.map_cons, List.map_nil, List.sum_cons, List.sum_nil, Nat.reduceAdd, Nat.reduceMul, Nat.reduceLT, Nat.reduceLeDiff, Nat.reduceEqDiff, Nat.reduceSub, decide_true, true_and, and_true, and_self, if_true, if_false, Option.toList_some, Option.toList_none, List.cons_append, List.nil_append, qsL, qlong, List.length_cons, List.length_nil, iN_L, vM1, vM2, exI, iN_add, iN_mul, iN_le, iN_lt, iN_eq, Nat.le_refl, qfN0, qfN1, gM_43, m43, show ¬ st.length + 1 ≤ 0 by omega, sb, pM_43, ← e1, m1, gM_44, gM_45, gM_46, rM_87, rM_88, rM_89, q1, q2, q3]
  · rw [e1, mi_mI, if_neg (by decide)]; exact m41
  · rw [hg, hg, hg]
    have := vs t (by omega)
    rw [getD_add, if_neg (by omega)] at this
    exact this
  · rw [hg]; exact vo t ht
set_option maxRecDepth 100000 in
set_option maxHeartbeats 16000000 in
theorem pc_one {x k u : Nat} {st : List trp} {out : List Nat} (x5 x6 x7 : Option Value) (s : ShM h) (v : PcV h st out) (hx : x < 65536) (hk : k < 1000) (hp : pop x 24 = k + 1) (hl : out.length < 4000) : ∃ h', (∀ R, qEv (d + 3) 0 qk_284 79 [some (.ref 55), some (.int (iN i)), some (.int (iN x)), some (.int (iN k)), some (.int (iN u)), x5, x6, x7] [] h R ↔ qEv (d + 3) 0 qk_284 31 [some (.ref 55), some (.int (iN i)), some (.int (iN x)), some (.int (iN k)), some (.int (iN u)), x5, x6, x7] [] h' R) ∧ Ch [86, 87, 88, 89] [41, 43] h h' ∧ PcV h' st (out ++ [x ||| u]) := by
  obtain ⟨m43, m41, vs, vo⟩ := v
  obtain ⟨g1, e1⟩ : ∃ g1, g1 = sI h 86 (upd (hi h 86) out.length (iN (x ||| u))) := ⟨_, rfl⟩
  have c1 : Ch [86, 87, 88, 89] [41, 43] h g1 := by rw [e1]; exact Ch.rowI s (kM_86 s) (by decide)
  have s1 := c1.sh
  obtain ⟨g2, e2⟩ : ∃ g2, g2 = mI g1 41 (iN (out.length + 1)) := ⟨_, rfl⟩
  have c2 : Ch [86, 87, 88, 89] [41, 43] h g2 := c1.trans (by rw [e2]; exact Ch.setI s1 (by decide) (by decide))
  have m1 : mi g1 41 = iN out.length := by rw [e1, mi_sI (kM_86 s), m41]
  have sb : ∀ R, qMC (d + 3) 192 [.int (iN x)] h R ↔ R = (some (.int (iN (pop x 24))), h) := fun R => s_bitsN hx R
  have pw := pop_le x 24
  refine ⟨g2, fun R => ?_, c2, ?_, ?_, fun t ht => ?_, fun t ht => ?_⟩
  · rw [e284_79]
    simp (disch := first | assumption | omega) only [e284_0, e284_1, e284_2, e284_5, e284_6, e284_7, e284_10, e284_11, e284_12, e284_13, e284_16, e284_17, e284_18, e284_19, e284_20, e284_21, e284_22, e284_25, e284_26, e284_27, e284_28, e284_32, e284_35, e284_38, e284_39, e284_40, e284_43, e284_44, e284_45, e284_48, e284_49, e284_52, e284_53, e284_56, e284_57, e284_58, e284_59, e284_62, e284_63, e284_66, e284_67, e284_68, e284_69, e284_72, e284_73, e284_76, e284_77, e284_80, e284_83, e284_84, e284_85, e284_86, e284_89, e284_90, e284_93, e284_94, e284_97, e284_98, e284_100, e284_101, e284_102, e284_103, e284_104, e284_107, e284_108, e284_109, e284_112, e284_115, e284_116, e284_117, e284_118, e284_119, e284_121, e284_122, e284_123, e284_124, e284_125, e284_126, e284_129, e284_130, e284_131, e284_133, e284_135, e284_138, e284_139, e284_140, e284_141, e284_142, e284_143, e284_145, e284_148, e284_150, e284_152, e284_153, e284_154, e284_155, e284_156, e284_159, e284_161, e284_163, e284_164, e284_167, e284_168, e284_170, e284_171, e284_172, e284_173, e284_175, e284_177, e284_178, e284_181, e284_184, e284_187, e284_190, e284_191, e284_194, m284, ↓reduceIte, qg_0, qg_1, qg_2, qg_3, qg_4, qg_5, qg_6, qg_7, qg_8, qg_9, qg_10, qg_11, qg_12, qg_13, not_true_eq_false, not_false_eq_true, Nat.reduceBEq, Bool.false_eq_true, ex1, ex3, ex4, exF, qfit_i, qfit_l, qfit_r, qfit_n, qfit_b0, qfit_b1, qcat_i, qcat_r, qcat_n, qcat_l, qroom_0, qroom_c, List.map_cons, List.map_nil, List.sum_cons, List.sum_nil, Nat.reduceAdd, Nat.reduceMul, Nat.reduceLT, Nat.reduceLeDiff, Nat.reduceEqDiff, Nat.reduceSub, decide_true, true_and, and_true, and_self, if_true, if_false, Option.toList_some, Option.toList_none, List.cons_append, List.nil_append, qsL, qlong, List.length_cons, List.length_nil, iN_L, vM1, vM2, exI, iN_add, iN_mul, iN_le, iN_lt, iN_eq, Nat.le_refl, qfN0, qfN1, sb, hp, gM_42, gM_41, m41, iN_or, wM_86, ← e1, m1, pM_41, ← e2]
  · rw [e2, mi_mI, if_neg (by decide), e1, mi_sI (kM_86 s), m43]
  · rw [e2, mi_mI, if_pos rfl, len_add]
  · rw [e2, hi_mI s1, hi_mI s1, hi_mI s1, e1, hi_sI, if_neg (by decide), hi_sI, if_neg (by decide), hi_sI, if_neg (by decide)]
    exact vs t ht
  · rw [len_add] at ht
    rw [e2, hi_mI s1, e1, hi_sI, if_pos rfl, upd_at, getD_add]
    by_cases e : t = out.length
    · rw [if_pos e, if_pos e]
    · rw [if_neg e, if_neg e]; exact vo t (by omega)
noncomputable def chd (bs : List bdy) (i k x u m : Nat) : List trp := (((cel bs i k).take m).filter (blwB x)).reverse.map fun y => (y, k, u ||| low x)
theorem chd_0 {k x u : Nat} : chd bs i k x u 0 = [] := by unfold chd; rw [List.take_zero]; rfl
theorem chd_s {k x u m : Nat} (hm : m < (cel bs i k).length) : chd bs i k x u (m + 1) = (if blwB x ((cel bs i k).getD m 0) = true then [((cel bs i k).getD m 0, k, u ||| low x)] else []) ++ chd bs i k x u m := by
  unfold chd
  have e : (cel bs i k).take (m + 1) = (cel bs i k).take m ++ [(cel bs i k).getD m 0] := by
    rw [List.getD_eq_getElem?_getD, List.getElem?_eq_getElem hm]
    exact (List.take_append_getElem hm).symm
  rw [e, List.filter_append, List.reverse_append, List.map_append]
  by_cases q : blwB x ((cel bs i k).getD m 0) = true
  · rw [if_pos q, List.filter_cons_of_pos q]; rfl
  · rw [if_neg q, List.filter_cons_of_neg q]; rfl
set_option maxRecDepth 100000 in
set_option maxHeartbeats 16000000 in
theorem pc_push {x k u : Nat} {out : List Nat} (B0 : ∀ h', ShM h' → Ch [86, 87, 88, 89] [41, 43] h h' → BsM h' bs) (hi' : i < bs.length) (hk : k < 4) (hx : x < 65536) (hu : u < 65536) : ∀ (m : Nat) (h1 : qH) (st : List trp) (x7 : Option Value), Ch [86, 87, 88, 89] [41, 43] h h1 → PcV h1 st out → m ≤ (cel bs i k).length → st.length + m ≤ 4000 → ∃ h' y7, (∀ R, qEv (d + 3) 0 qk_284 133 [some (.ref 55), some (.int (iN i)), some (.int (iN x)), some (.int (iN (k + 1))), some (.int (iN u)), some (.int (iN (low x))), some (.int (kv m)), x7] [] h1 R ↔ qEv (d + 3) 0 qk_284 31 [some (.ref 55), some (.int (iN i)), some (.int (iN x)), some (.int (iN (k + 1))), some (.int (iN u)), some (.int (iN (low x))), some (.int (kv 0)), y7] [] h' R) ∧ Ch [86, 87, 88, 89] [41, 43] h h' ∧ PcV h' (st ++ chd bs i k x u m) out := by
  intro m
  induction m with
  | zero =>
    intro h1 st x7 c1 v hm hl
    refine ⟨h1, x7, fun R => ?_, c1, by rw [chd_0, List.append_nil]; exact v⟩
    rw [e284_133]
    simp (disch := first | assumption | omega) only [e284_0, e284_1, e284_2, e284_5, e284_6, e284_7, e284_10, e284_11, e284_12, e284_13, e284_16, e284_17, e284_18, e284_19, e284_20, e284_21, e284_22, e284_25, e284_26, e284_27, e284_28, e284_32, e284_35, e284_38, e284_39, e284_40, e284_43, e284_44, e284_45, e284_48, e284_49, e284_52, e284_53, e284_56, e284_57, e284_58, e284_59, e284_62, e284_63, e284_66, e284_67, e284_68, e284_69, e284_72, e284_73, e284_76, e284_77, e284_79, e284_80, e284_83, e284_84, e284_85, e284_86, e284_89, e284_90, e284_93, e284_94, e284_97, e284_98, e284_100, e284_101, e284_102, e284_103, e284_104, e284_107, e284_108, e284_109, e284_112, e284_115, e284_116, e284_117, e284_118, e284_119, e284_121, e284_122, e284_123, e284_124, e284_125, e284_126, e284_129, e284_130, e284_131, e284_135, e284_138, e284_139, e284_140, e284_141, e284_142, e284_143, e284_145, e284_148, e284_150, e284_152, e284_153, e284_154, e284_155, e284_156, e284_159, e284_161, e284_163, e284_164, e284_167, e284_168, e284_170, e284_171, e284_172, e284_173, e284_175, e284_177, e284_178, e284_181, e284_184, e284_187, e284_190, e284_191, e284_194, m284, ↓reduceIte, qg_0, qg_1, qg_2, qg_3, qg_4, qg_5, qg_6, qg_7, qg_8, qg_9, qg_10, qg_11, qg_12, qg_13, not_true_eq_false, not_false_eq_true, Nat.reduceBEq, Bool.false_eq_true, ex1, ex3, ex4, exF, qfit_i, qfit_l, qfit_r, qfit_n, qfit_b0, qfit_b1, qcat_i, qcat_r, qcat_n, qcat_l, qroom_0, qroom_c, List.map_cons, List.map_nil, List.sum_cons, List.sum_nil, Nat.reduceAdd, Nat.reduceMul, Nat.reduceLT, Nat.reduceLeDiff, Nat.reduceEqDiff, Nat.reduceSub, decide_true, true_and, and_true, and_self, if_true, if_false, Option.toList_some, Option.toList_none, List.cons_append, List.nil_append, qsL, qlong, List.length_cons, List.length_nil, iN_L, vM1, vM2, exI, iN_add, iN_mul, iN_le, iN_lt, iN_eq, Nat.le_refl, qfN0, qfN1, show kv 0 < iN 0 by decide]
  | succ m ih =>
    intro h1 st x7 c1 v hm hl
    have s1 := c1.sh
    have B1 := B0 h1 s1 c1
    obtain ⟨-, l208, cb⟩ := B1.cells hi' k hk
    have yb := (cb m (by omega)).2
    obtain ⟨y, ey⟩ : ∃ y, y = (cel bs i k).getD m 0 := ⟨_, rfl⟩
    have so : ∀ R, qMC (d + 3) 196 [.ref 55, .int (iN i), .int (iN k), .int (iN m)] h1 R ↔ R = (some (.int (iN y)), h1) := fun R => by rw [ey]; exact s_setOfC s1 B1 hi' hk (by omega)
    rw [← ey] at yb
    have wl := wo_le y x
    have al : y &&& low x ≤ y := Nat.and_le_left
    have ek : kv (m + 1) = iN m := rfl
    have sb : iN (k + 1) - iN 1 = iN k := iN_sub (by omega)
    rw [chd_s (show m < (cel bs i k).length by omega), ← ey]
    cases q : blwB x y with
    | true =>
      have q2 : wo y x = 0 ∧ y &&& low x = 0 := by
        unfold blwB at q
        rw [Bool.and_eq_true, decide_eq_true_eq, decide_eq_true_eq] at q
        exact q
      obtain ⟨h2, r2, c2, v2⟩ := s_wait (d := d + 2) (x := y) (k := k) (u := u ||| low x) s1 v (by omega)
      obtain ⟨h3, y7, r3, c3, v3⟩ := ih h2 (st ++ [(y, k, u ||| low x)]) (some (.int (iN y))) (c1.trans c2) v2 (by omega) (by rw [len_add]; omega)
      refine ⟨h3, y7, fun R => ?_, c3, ?_⟩
      · rw [← r3 R, e284_133, ek]
        simp (disch := first | assumption | omega) only [e284_0, e284_1, e284_2, e284_5, e284_6, e284_7, e284_10, e284_11, e284_12, e284_13, e284_16, e284_17, e284_18, e284_19, e284_20, e284_21, e284_22, e284_25, e284_26, e284_27, e284_28, e284_32, e284_35, e284_38, e284_39, e284_40, e284_43, e284_44, e284_45, e284_48, e284_49, e284_52, e284_53, e284_56, e284_57, e284_58, e284_59, e284_62, e284_63, e284_66, e284_67, e284_68, e284_69, e284_72, e284_73, e284_76, e284_77, e284_79, e284_80, e284_83, e284_84, e284_85, e284_86, e284_89, e284_90, e284_93, e284_94, e284_97, e284_98, e284_100, e284_101, e284_102, e284_103, e284_104, e284_107, e284_108, e284_109, e284_112, e284_115, e284_116, e284_117, e284_118, e284_119, e284_121, e284_122, e284_123, e284_124, e284_125, e284_126, e284_129, e284_130, e284_131, e284_135, e284_138, e284_139, e284_140, e284_141, e284_142, e284_143, e284_145, e284_148, e284_150, e284_152, e284_153, e284_154, e284_155, e284_156, e284_159, e284_161, e284_163, e284_164, e284_167, e284_168, e284_170, e284_171, e284_172, e284_173, e284_175, e284_177, e284_178, e284_181, e284_184, e284_187, e284_190, e284_191, e284_194, m284, ↓reduceIte, qg_0, qg_1, qg_2, qg_3, qg_4, qg_5, qg_6, qg_7, qg_8, qg_9, qg_10, qg_11, qg_12, qg_13, not_true_eq_false, not_false_eq_true, Nat.reduceBEq, Bool.false_eq_true, ex1, ex3, ex4, exF, qfit_i, qfit_l, qfit_r, qfit_n, qfit_b0, qfit_b1, qcat_i, qcat_r, qcat_n, qcat_l, qroom_0, qroom_c, List.map_cons, List.map_nil, List.sum_cons, List.sum_nil, Nat.reduceAdd, Nat.reduceMul, Nat.reduceLT, Nat.reduceLeDiff, Nat.reduceEqDiff, Nat.reduceSub, decide_true, true_and, and_true, and_self, if_true, if_false, Option.toList_some, Option.toList_none, List.cons_append, List.nil_append, qsL, qlong, List.length_cons, List.length_nil, iN_L, vM1, vM2, exI, iN_add, iN_mul, iN_le, iN_lt, iN_eq, Nat.le_refl, qfN0, qfN1, Nat.not_lt_zero, sb, so, iN_wo', q2.1, iN_and y (low x), q2.2, iN_or, r2, kv_dec']
      · rw [if_pos rfl, ← List.append_assoc]; exact v3
    | false =>
      have q2 : ¬ wo y x = 0 ∨ (wo y x = 0 ∧ ¬ y &&& low x = 0) := by
        unfold blwB at q
        by_cases w : wo y x = 0
        · right
          refine ⟨w, fun z => ?_⟩
          rw [decide_eq_true w, decide_eq_true z] at q
          cases q
        · exact Or.inl w
      obtain ⟨h3, y7, r3, c3, v3⟩ := ih h1 st (some (.int (iN y))) c1 v (by omega) (by omega)
      refine ⟨h3, y7, fun R => ?_, c3, by rw [if_neg Bool.false_ne_true, List.nil_append]; exact v3⟩
      rw [← r3 R, e284_133, ek]
      rcases q2 with w | ⟨w1, w2⟩
      · simp (disch := first | assumption | omega) only [e284_0, e284_1, e284_2, e284_5, e284_6, e284_7, e284_10, e284_11, e284_12, e284_13, e284_16, e284_17, e284_18, e284_19, e284_20, e284_21, e284_22, e284_25, e284_26, e284_27, e284_28, e284_32, e284_35, e284_38, e284_39, e284_40, e284_43, e284_44, e284_45, e284_48, e284_49, e284_52, e284_53, e284_56, e284_57, e284_58, e284_59, e284_62, e284_63, e284_66, e284_67, e284_68, e284_69, e284_72, e284_73, e284_76, e284_77, e284_79, e284_80, e284_83, e284_84, e284_85, e284_86, e284_89, e284_90, e284_93, e284_94, e284_97, e284_98, e284_100, e284_101, e284_102, e284_103, e284_104, e284_107, e284_108, e284_109, e284_112, e284_115, e284_116, e284_117, e284_118, e284_119, e284_121, e284_122, e284_123, e284_124, e284_125, e284_126, e284_129, e284_130, e284_131, e284_135, e284_138, e284_139, e284_140, e284_141, e284_142, e284_143, e284_145, e284_148, e284_150, e284_152, e284_153, e284_154, e284_155, e284_156, e284_159, e284_161, e284_163, e284_164, e284_167, e284_168, e284_170, e284_171, e284_172, e284_173, e284_175, e284_177, e284_178, e284_181, e284_184, e284_187, e284_190, e284_191, e284_194, m284, ↓reduceIte, qg_0, qg_1, qg_2, qg_3, qg_4, qg_5, qg_6, qg_7, qg_8, qg_9, qg_10, qg_11, qg_12, qg_13, not_true_eq_false, not_false_eq_true, Nat.reduceBEq, Bool.false_eq_true, ex1, ex3, ex4, exF, qfit_i, qfit_l, qfit_r, qfit_n, qfit_b0, qfit_b1, qcat_i, qcat_r, qcat_n, qcat_l, qroom_0, qroom_c, List.map_cons, List.map_nil, List.sum_cons, List.sum_nil, Nat.reduceAdd, Nat.reduceMul, Nat.reduceLT, Nat.reduceLeDiff, Nat.reduceEqDiff, Nat.reduceSub, decide_true, true_and, and_true, and_self, if_true, if_false, Option.toList_some, Option.toList_none, List.cons_append, List.nil_append, qsL, qlong, List.length_cons, List.length_nil, iN_L, vM1, vM2, exI, iN_add, iN_mul, iN_le, iN_lt, iN_eq, Nat.le_refl, qfN0, qfN1, Nat.not_lt_zero, sb, so, iN_wo', w, kv_dec']
      · simp (disch := first | assumption | omega) only [e284_0, e284_1, e284_2, e284_5, e284_6, e284_7, e284_10, e284_11, e284_12, e284_13, e284_16, e284_17, e284_18, e284_19, e284_20, e284_21, e284_22, e284_25, e284_26, e284_27, e284_28, e284_32, e284_35, e284_38, e284_39, e284_40, e284_43, e284_44, e284_45, e284_48, e284_49, e284_52, e284_53, e284_56, e284_57, e284_58, e284_59, e284_62, e284_63, e284_66, e284_67, e284_68, e284_69, e284_72, e284_73, e284_76, e284_77, e284_79, e284_80, e284_83, e284_84, e284_85, e284_86, e284_89, e284_90, e284_93, e284_94, e284_97, e284_98, e284_100, e284_101, e284_102, e284_103, e284_104, e284_107, e284_108, e284_109, e284_112, e284_115, e284_116, e284_117, e284_118, e284_119, e284_121, e284_122, e284_123, e284_124, e284_125, e284_126, e284_129, e284_130, e284_131, e284_135, e284_138, e284_139, e284_140, e284_141, e284_142, e284_143, e284_145, e284_148, e284_150, e284_152, e284_153, e284_154, e284_155, e284_156, e284_159, e284_161, e284_163, e284_164, e284_167, e284_168, e284_170, e284_171, e284_172, e284_173, e284_175, e284_177, e284_178, e284_181, e284_184, e284_187, e284_190, e284_191, e284_194, m284, ↓reduceIte, qg_0, qg_1, qg_2, qg_3, qg_4, qg_5, qg_6, qg_7, qg_8, qg_9, qg_10, qg_11, qg_12, qg_13, not_true_eq_false, not_false_eq_true, Nat.reduceBEq, Bool.false_eq_true, ex1, ex3, ex4, exF, qfit_i, qfit_l, qfit_r, qfit_n, qfit_b0, qfit_b1, qcat_i, qcat_r, qcat_n, qcat_l, qroom_0, qroom_c, List.map_cons, List.map_nil, List.sum_cons, List.sum_nil, Nat.reduceAdd, Nat.reduceMul, Nat.reduceLT, Nat.reduceLeDiff, Nat.reduceEqDiff, Nat.reduceSub, decide_true, true_and, and_true, and_self, if_true, if_false, Option.toList_some, Option.toList_none, List.cons_append, List.nil_append, qsL, qlong, List.length_cons, List.length_nil, iN_L, vM1, vM2, exI, iN_add, iN_mul, iN_le, iN_lt, iN_eq, Nat.le_refl, qfN0, qfN1, Nat.not_lt_zero, sb, so, iN_wo', w1, iN_and y (low x), w2, kv_dec']
theorem edge_two {y : Nat} (B : BsM h bs) (hi' : i < bs.length) (hy : y ∈ cel bs i 1) : pop y 24 = 2 := by
  obtain ⟨m, S, G, b⟩ := B.G hi'
  obtain ⟨a, c, hac, hc, ey⟩ := b.edge2 (B.2.2 i hi').1 (cls_mem.mp hy).2
  have h16 := b.n16
  rw [ey]
  have h1 := pair_pop (show a < 16 by omega) (show c < 16 by omega) (by omega)
  have : pop (2 ^ a ||| 2 ^ c) 24 = pop (2 ^ a ||| 2 ^ c) 16 := cntN_cut (by decide) fun k h1 _ h3 => by have := pair_bit.mp h3; omega
  omega
/-- from a stack to a stack -/
def pcO (d : Nat) (h : qH) (i : Nat) (h1 : qH) (st : List trp) (out : List Nat) : Prop := ∀ x2 x3 x4 x5 x6 x7 : Option Value, ∃ h' y2 y3 y4 y5 y6 y7, (∀ R, qEv (d + 3) 0 qk_284 31 [some (.ref 55), some (.int (iN i)), x2, x3, x4, x5, x6, x7] [] h1 R ↔ qEv (d + 3) 0 qk_284 31 [some (.ref 55), some (.int (iN i)), y2, y3, y4, y5, y6, y7] [] h' R) ∧ Ch [86, 87, 88, 89] [41, 43] h h' ∧ PcV h' st out
theorem pc_many {k u : Nat} (one : ∀ (y : Nat) (h1 : qH) (st : List trp) (out : List Nat), y ∈ cel bs i k → Ch [86, 87, 88, 89] [41, 43] h h1 → PcV h1 (st ++ [(y, k, u)]) out → st.length + 208 * k + 1 ≤ 4000 → out.length + (pcs bs i k y u).length ≤ 4000 → pcO d h i h1 st (out ++ pcs bs i k y u)) : ∀ (ys : List Nat) (h1 : qH) (st : List trp) (out : List Nat), (∀ y ∈ ys, y ∈ cel bs i k) → Ch [86, 87, 88, 89] [41, 43] h h1 → PcV h1 (st ++ ys.reverse.map fun y => (y, k, u)) out → st.length + ys.length + 208 * k ≤ 4000 → out.length + (ys.flatMap fun y => pcs bs i k y u).length ≤ 4000 → pcO d h i h1 st (out ++ ys.flatMap fun y => pcs bs i k y u) := by
  intro ys
  induction ys with
  | nil =>
    intro h1 st out hy c1 v hl ho x2 x3 x4 x5 x6 x7
    refine ⟨h1, x2, x3, x4, x5, x6, x7, fun R => Iff.rfl, c1, ?_⟩
    rw [List.flatMap_nil, List.append_nil]
    rw [List.reverse_nil, List.map_nil, List.append_nil] at v
    exact v
  | cons y ys ih =>
    intro h1 st out hy c1 v hl ho x2 x3 x4 x5 x6 x7
    rw [List.flatMap_cons, List.length_append] at ho
    rw [List.length_cons] at hl
    have v' : PcV h1 ((st ++ ys.reverse.map fun y => (y, k, u)) ++ [(y, k, u)]) out := by
      rw [List.reverse_cons, List.map_append, ← List.append_assoc] at v
      exact v
    obtain ⟨h2, a2, a3, a4, a5, a6, a7, r2, c2, v2⟩ := one y h1 (st ++ ys.reverse.map fun y => (y, k, u)) out (hy y List.mem_cons_self) c1 v' (by rw [List.length_append, List.length_map, List.length_reverse]; omega) (by omega) x2 x3 x4 x5 x6 x7
    obtain ⟨h3, b2, b3, b4, b5, b6, b7, r3, c3, v3⟩ := ih h2 st (out ++ pcs bs i k y u) (fun z hz => hy z (List.mem_cons_of_mem _ hz)) c2 v2 (by omega) (by rw [List.length_append]; omega) a2 a3 a4 a5 a6 a7
    refine ⟨h3, b2, b3, b4, b5, b6, b7, fun R => (r2 R).trans (r3 R), c3, ?_⟩
    rw [List.flatMap_cons, ← List.append_assoc]
    exact v3
set_option maxRecDepth 100000 in
set_option maxHeartbeats 16000000 in
theorem pc_run (s : ShM h) (B : BsM h bs) (hi' : i < bs.length) : ∀ (k : Nat), k ≤ 3 → ∀ (x u : Nat) (h1 : qH) (st : List trp) (out : List Nat), x < 65536 → u < 65536 → (k = 0 → pop x 24 = 2) → Ch [86, 87, 88, 89] [41, 43] h h1 → PcV h1 (st ++ [(x, k + 1, u)]) out → st.length + 208 * (k + 1) + 1 ≤ 4000 → out.length + (pcs bs i (k + 1) x u).length ≤ 4000 → pcO d h i h1 st (out ++ pcs bs i (k + 1) x u) := by
  intro k
  induction k with
  | zero =>
    intro hk x u h1 st out hx hu hp c1 v hl ho x2 x3 x4 x5 x6 x7
    have e : pcs bs i (0 + 1) x u = [x ||| u] := by rw [pcs, if_pos (hp rfl)]
    rw [e] at ho ⊢
    obtain ⟨h2, r2, c2, v2⟩ := pc_pop (d := d) (i := i) x2 x3 x4 x5 x6 x7 c1.sh v (by omega)
    have ho' : out.length + 1 ≤ 4000 := ho
    obtain ⟨h3, r3, c3, v3⟩ := pc_one (d := d) (i := i) (u := u) x5 x6 x7 c2.sh v2 hx (show 0 + 1 < 1000 by omega) (hp rfl) (by omega)
    exact ⟨h3, _, _, _, _, _, _, fun R => (r2 R).trans (r3 R), (c1.trans c2).trans c3, v3⟩
  | succ k ih =>
    intro hk x u h1 st out hx hu hp c1 v hl ho x2 x3 x4 x5 x6 x7
    obtain ⟨h2, r2, c2, v2⟩ := pc_pop (d := d) (i := i) x2 x3 x4 x5 x6 x7 c1.sh v (by omega)
    have c12 := c1.trans c2
    by_cases q : pop x 24 = k + 1 + 2
    · have e : pcs bs i (k + 1 + 1) x u = [x ||| u] := by rw [pcs, if_pos q]
      rw [e] at ho ⊢
      have ho' : out.length + 1 ≤ 4000 := ho
      obtain ⟨h3, r3, c3, v3⟩ := pc_one (d := d) (i := i) (u := u) x5 x6 x7 c2.sh v2 hx (show k + 1 + 1 < 1000 by omega) (by omega) (by omega)
      exact ⟨h3, _, _, _, _, _, _, fun R => (r2 R).trans (r3 R), c12.trans c3, v3⟩
    · have e : pcs bs i (k + 1 + 1) x u = ((cel bs i (k + 1)).filter (blwB x)).flatMap fun y => pcs bs i (k + 1) y (u ||| low x) := by rw [pcs, if_neg q]
      rw [e] at ho ⊢
      have BB : ∀ h', ShM h' → Ch [86, 87, 88, 89] [41, 43] h h' → BsM h' bs := fun h' _ c => B.ch c (by decide) (by decide)
      have s2 := c12.sh
      have B2 := BB h2 s2 c12
      obtain ⟨-, l208, cb⟩ := B2.cells hi' (k + 1) (by omega)
      have ll := low_le (x := x)
      have ul : u ||| low x < 65536 := Nat.or_lt_two_pow (n := 16) hu (show low x < 2 ^ 16 by omega)
      obtain ⟨h3, y7, r3, c3, v3⟩ := pc_push (d := d) (x := x) (k := k + 1) (u := u) BB hi' (by omega) hx hu (cel bs i (k + 1)).length h2 st x7 c12 v2 (Nat.le_refl _) (by omega)
      have r4 : ∀ R, qEv (d + 3) 0 qk_284 79 [some (.ref 55), some (.int (iN i)), some (.int (iN x)), some (.int (iN (k + 1 + 1))), some (.int (iN u)), x5, x6, x7] [] h2 R ↔ qEv (d + 3) 0 qk_284 133 [some (.ref 55), some (.int (iN i)), some (.int (iN x)), some (.int (iN (k + 1 + 1))), some (.int (iN u)), some (.int (iN (low x))), some (.int (kv (cel bs i (k + 1)).length)), x7] [] h2 R := by
        intro R
        have sb : ∀ R, qMC (d + 3) 192 [.int (iN x)] h2 R ↔ R = (some (.int (iN (pop x 24))), h2) := fun R => s_bitsN hx R
        have pw := pop_le x 24
        have mn : ∀ R, qMC (d + 3) 195 [.ref 55, .int (iN i), .int (iN (k + 1))] h2 R ↔ R = (some (.int (iN (cel bs i (k + 1)).length)), h2) := fun R => s_manyC s2 B2 hi' (by omega)
        have sub : iN (k + 1 + 1) - iN 1 = iN (k + 1) := iN_sub (by omega)
        rw [e284_79]
        simp (disch := first | assumption | omega) only [e284_0, e284_1, e284_2, e284_5, e284_6, e284_7, e284_10, e284_11, e284_12, e284_13, e284_16, e284_17, e284_18, e284_19, e284_20, e284_21, e284_22, e284_25, e284_26, e284_27, e284_28, e284_32, e284_35, e284_38, e284_39, e284_40, e284_43, e284_44, e284_45, e284_48, e284_49, e284_52, e284_53, e284_56, e284_57, e284_58, e284_59, e284_62, e284_63, e284_66, e284_67, e284_68, e284_69, e284_72, e284_73, e284_76, e284_77, e284_80, e284_83, e284_84, e284_85, e284_86, e284_89, e284_90, e284_93, e284_94, e284_97, e284_98, e284_100, e284_101, e284_102, e284_103, e284_104, e284_107, e284_108, e284_109, e284_112, e284_115, e284_116, e284_117, e284_118, e284_119, e284_121, e284_122, e284_123, e284_124, e284_125, e284_126, e284_129, e284_130, e284_131, e284_135, e284_138, e284_139, e284_140, e284_141, e284_142, e284_143, e284_145, e284_148, e284_150, e284_152, e284_153, e284_154, e284_155, e284_156, e284_159, e284_161, e284_163, e284_164, e284_167, e284_168, e284_170, e284_171, e284_172, e284_173, e284_175, e284_177, e284_178, e284_181, e284_184, e284_187, e284_190, e284_191, e284_194, m284, ↓reduceIte, qg_0, qg_1, qg_2, qg_3, qg_4, qg_5, qg_6, qg_7, qg_8, qg_9, qg_10, qg_11, qg_12, qg_13, not_true_eq_false, not_false_eq_true, Nat.reduceBEq, Bool.false_eq_true, ex1, ex3, ex4, exF, qfit_i, qfit_l, qfit_r, qfit_n, qfit_b0, qfit_b1, qcat_i, qcat_r, qcat_n, qcat_l, qroom_0, qroom_c, List.map_cons, List.map_nil, List.sum_cons, List.sum_nil, Nat.reduceAdd, Nat.reduceMul, Nat.reduceLT, Nat.reduceLeDiff, Nat.reduceEqDiff, Nat.reduceSub, decide_true, true_and, and_true, and_self, if_true, if_false, Option.toList_some, Option.toList_none, List.cons_append, List.nil_append, qsL, qlong, List.length_cons, List.length_nil, iN_L, vM1, vM2, exI, iN_add, iN_mul, iN_le, iN_lt, iN_eq, Nat.le_refl, qfN0, qfN1, sb, show ¬ pop x 24 = k + 1 + 1 + 1 by omega, iN_low, sub, mn, kv_sub]
      have v3' : PcV h3 (st ++ ((cel bs i (k + 1)).filter (blwB x)).reverse.map fun y => (y, k + 1, u ||| low x)) out := by
        unfold chd at v3
        rw [List.take_length] at v3
        exact v3
      have fl : ((cel bs i (k + 1)).filter (blwB x)).length ≤ (cel bs i (k + 1)).length := List.length_filter_le _ _
      have mb : ∀ y, y ∈ cel bs i (k + 1) → y < 65536 := fun y hy => (cls_mem.mp hy).1
      obtain ⟨h4, z2, z3, z4, z5, z6, z7, r5, c5, v5⟩ := pc_many (d := d) (h := h) (k := k + 1) (u := u ||| low x) (fun y g st' out' hy cg vg hl' ho' => ih (by omega) y (u ||| low x) g st' out' (mb y hy) ul (fun e0 => edge_two B hi' (by rw [e0] at hy; exact hy)) cg vg hl' ho') _ h3 st out (fun y hy => (List.mem_filter.mp hy).1) c3 v3' (by omega) ho (some (.int (iN x))) (some (.int (iN (k + 1 + 1)))) (some (.int (iN u))) (some (.int (iN (low x)))) (some (.int (kv 0))) y7
      exact ⟨h4, z2, z3, z4, z5, z6, z7, fun R => ((r2 R).trans (r4 R)).trans ((r3 R).trans (r5 R)), c5, v5⟩
/-- the pieces of a body -/
noncomputable def pcL (bs : List bdy) (i : Nat) : List Nat := pcs bs i (dmn bs i) (2 ^ (cnr bs i).length - 1) 0
set_option maxRecDepth 100000 in
set_option maxHeartbeats 16000000 in
theorem s_findPieces (s : ShM h) (B : BsM h bs) (hi' : i < bs.length) (hp : (pcL bs i).length ≤ 4000) : ∃ h', (∀ R, qMC (d + 4) 284 [.ref 55, .int (iN i)] h R ↔ R = (some (.int (iN (pcL bs i).length)), h')) ∧ Ch [86, 87, 88, 89] [41, 43] h h' ∧ mi h' 41 = iN (pcL bs i).length ∧ ∀ t, t < (pcL bs i).length → hi h' 86 t = iN ((pcL bs i).getD t 0) := by
  have b24 := B.1
  have ni := (B.corn hi').1
  have li := (B.corn hi').2.1
  obtain ⟨di, di2, di4⟩ := B.dim hi'
  have px : 2 ^ (cnr bs i).length ≤ 65536 := show 2 ^ (cnr bs i).length ≤ 2 ^ 16 from Nat.pow_le_pow_right (by decide) li
  obtain ⟨g1, e1⟩ : ∃ g1, g1 = mI h 41 (iN 0) := ⟨_, rfl⟩
  have c1 : Ch [86, 87, 88, 89] [41, 43] h g1 := by rw [e1]; exact Ch.setI s (by decide) (by decide)
  have s1 := c1.sh
  obtain ⟨g2, e2⟩ : ∃ g2, g2 = mI g1 43 (iN 0) := ⟨_, rfl⟩
  have c2 : Ch [86, 87, 88, 89] [41, 43] h g2 := c1.trans (by rw [e2]; exact Ch.setI s1 (by decide) (by decide))
  have s2 := c2.sh
  have v2 : PcV g2 [] [] := ⟨by rw [e2, mi_mI, if_pos rfl]; rfl, by rw [e2, mi_mI, if_neg (by decide), e1, mi_mI, if_pos rfl]; rfl, fun t ht => absurd ht (Nat.not_lt_zero t), fun t ht => absurd ht (Nat.not_lt_zero t)⟩
  obtain ⟨h3, r3, c3, v3⟩ := s_wait (d := d + 2) (x := 2 ^ (cnr bs i).length - 1) (k := dmn bs i) (u := 0) s2 v2 (by show 0 < 4000; omega)
  obtain ⟨D, eD⟩ : ∃ D, dmn bs i = D + 1 := ⟨dmn bs i - 1, by omega⟩
  have n57 : hi g2 57 i = iN (cnr bs i).length := by rw [c2.hi (by decide) (by decide)]; exact ni
  have n56 : hi g2 56 i = iN (dmn bs i) := by rw [c2.hi (by decide) (by decide)]; exact di
  have run := pc_run (d := d) s B hi' D (by omega) (2 ^ (cnr bs i).length - 1) 0 h3 [] [] (by omega) (by omega) (by omega) (c2.trans c3) (by rw [← eD]; exact v3) (by show 0 + 208 * (D + 1) + 1 ≤ 4000; omega) (by rw [← eD]; show 0 + (pcL bs i).length ≤ 4000; omega) none none none none none none
  rw [← eD] at run
  obtain ⟨h4, y2, y3, y4, y5, y6, y7, r4, c4, w1, w2, -, w4⟩ := run
  have s4 := c4.sh
  rw [List.nil_append] at w2 w4
  refine ⟨h4, fun R => ?_, c4, w2, w4⟩
  have r0 : qMC (d + 4) 284 [.ref 55, .int (iN i)] h R ↔ qEv (d + 3) 0 qk_284 31 [some (.ref 55), some (.int (iN i)), none, none, none, none, none, none] [] h3 R := by
    have pc : iN 1 <<< (iN (cnr bs i).length &&& iN 31) - iN 1 = iN (2 ^ (cnr bs i).length - 1) := by rw [iN_shl1 _ (by omega), iN_sub (by have := Nat.two_pow_pos (cnr bs i).length; omega)]
    simp (disch := first | assumption | omega) only [e284_0, e284_1, e284_2, e284_5, e284_6, e284_7, e284_10, e284_11, e284_12, e284_13, e284_16, e284_17, e284_18, e284_19, e284_20, e284_21, e284_22, e284_25, e284_26, e284_27, e284_28, e284_32, e284_35, e284_38, e284_39, e284_40, e284_43, e284_44, e284_45, e284_48, e284_49, e284_52, e284_53, e284_56, e284_57, e284_58, e284_59, e284_62, e284_63, e284_66, e284_67, e284_68, e284_69, e284_72, e284_73, e284_76, e284_77, e284_79, e284_80, e284_83, e284_84, e284_85, e284_86, e284_89, e284_90, e284_93, e284_94, e284_97, e284_98, e284_100, e284_101, e284_102, e284_103, e284_104, e284_107, e284_108, e284_109, e284_112, e284_115, e284_116, e284_117, e284_118, e284_119, e284_121, e284_122, e284_123, e284_124, e284_125, e284_126, e284_129, e284_130, e284_131, e284_133, e284_135, e284_138, e284_139, e284_140, e284_141, e284_142, e284_143, e284_145, e284_148, e284_150, e284_152, e284_153, e284_154, e284_155, e284_156, e284_159, e284_161, e284_163, e284_164, e284_167, e284_168, e284_170, e284_171, e284_172, e284_173, e284_175, e284_177, e284_178, e284_181, e284_184, e284_187, e284_190, e284_191, e284_194, m284, ↓reduceIte, qg_0, qg_1, qg_2, qg_3, qg_4, qg_5, qg_6, qg_7, qg_8, qg_9, qg_10, qg_11, qg_12, qg_13, not_true_eq_false, not_false_eq_true, Nat.reduceBEq, Bool.false_eq_true, ex1, ex3, ex4, exF, qfit_i, qfit_l, qfit_r, qfit_n, qfit_b0, qfit_b1, qcat_i, qcat_r, qcat_n, qcat_l, qroom_0, qroom_c, List.map_cons, List.map_nil, List.sum_cons, List.sum_nil, Nat.reduceAdd, Nat.reduceMul, Nat.reduceLT, Nat.reduceLeDiff, Nat.reduceEqDiff, Nat.reduceSub, decide_true, true_and, and_true, and_self, if_true, if_false, Option.toList_some, Option.toList_none, List.cons_append, List.nil_append, qsL, qlong, List.length_cons, List.length_nil, iN_L, vM1, vM2, exI, iN_add, iN_mul, iN_le, iN_lt, iN_eq, Nat.le_refl, qfN0, qfN1, pM_41, ← e1, pM_43, ← e2, gM_2, rM_57, n57, pc, gM_1, rM_56, n56, r3]
  rw [r0, r4 R, e284_31]
  have w1' : mi h4 43 = iN 0 := w1
  simp (disch := first | assumption | omega) only [e284_0, e284_1, e284_2, e284_5, e284_6, e284_7, e284_10, e284_11, e284_12, e284_13, e284_16, e284_17, e284_18, e284_19, e284_20, e284_21, e284_22, e284_25, e284_26, e284_27, e284_28, e284_32, e284_35, e284_38, e284_39, e284_40, e284_43, e284_44, e284_45, e284_48, e284_49, e284_52, e284_53, e284_56, e284_57, e284_58, e284_59, e284_62, e284_63, e284_66, e284_67, e284_68, e284_69, e284_72, e284_73, e284_76, e284_77, e284_79, e284_80, e284_83, e284_84, e284_85, e284_86, e284_89, e284_90, e284_93, e284_94, e284_97, e284_98, e284_100, e284_101, e284_102, e284_103, e284_104, e284_107, e284_108, e284_109, e284_112, e284_115, e284_116, e284_117, e284_118, e284_119, e284_121, e284_122, e284_123, e284_124, e284_125, e284_126, e284_129, e284_130, e284_131, e284_133, e284_135, e284_138, e284_139, e284_140, e284_141, e284_142, e284_143, e284_145, e284_148, e284_150, e284_152, e284_153, e284_154, e284_155, e284_156, e284_159, e284_161, e284_163, e284_164, e284_167, e284_168, e284_170, e284_171, e284_172, e284_173, e284_175, e284_177, e284_178, e284_181, e284_184, e284_187, e284_190, e284_191, e284_194, m284, ↓reduceIte, qg_0, qg_1, qg_2, qg_3, qg_4, qg_5, qg_6, qg_7, qg_8, qg_9, qg_10, qg_11, qg_12, qg_13, not_true_eq_false, not_false_eq_true, Nat.reduceBEq, Bool.false_eq_true, ex1, ex3, ex4, exF, qfit_i, qfit_l, qfit_r, qfit_n, qfit_b0, qfit_b1, qcat_i, qcat_r, qcat_n, qcat_l, qroom_0, qroom_c, List.map_cons, List.map_nil, List.sum_cons, List.sum_nil, Nat.reduceAdd, Nat.reduceMul, Nat.reduceLT, Nat.reduceLeDiff, Nat.reduceEqDiff, Nat.reduceSub, decide_true, true_and, and_true, and_self, if_true, if_false, Option.toList_some, Option.toList_none, List.cons_append, List.nil_append, qsL, qlong, List.length_cons, List.length_nil, iN_L, vM1, vM2, exI, iN_add, iN_mul, iN_le, iN_lt, iN_eq, Nat.le_refl, qfN0, qfN1, gM_43, w1', gM_41, w2]
  exact Iff.rfl
end PIECES

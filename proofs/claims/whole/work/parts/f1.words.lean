/-! ===== THE REFERENCE: feed, words and numbers of the text ===== -/
section TEXTR
variable {d : Nat} {h : qH} {tx : List Nat}
def TxV (h : qH) (tx : List Nat) : Prop := tx.length ≤ 160 ∧ mi h 51 = iN tx.length ∧ ∀ k, k < tx.length → hi h 93 k = iN (tx.getD k 0) ∧ tx.getD k 0 < 256
theorem TxV.ch {A J : List Nat} {h' : qH} (t : TxV h tx) (c : Ch A J h h') (hA : 93 ∉ A) (hJ : 51 ∉ J) : TxV h' tx := ⟨t.1, by rw [c.mi hJ]; exact t.2.1, fun k hk => by rw [c.hi hA (by decide)]; exact t.2.2 k hk⟩
theorem l255 (z : Int64) : ∃ n, n < 256 ∧ (z &&& 255).toInt32 = iN n := by
  refine ⟨(z.toBitVec &&& 255#64).toNat, ?_, ?_⟩
  · rw [BitVec.toNat_and]
    exact Nat.lt_of_le_of_lt Nat.and_le_right (by decide)
  · apply Int32.toBitVec_inj.mp
    show (z.toBitVec &&& 255#64).signExtend 32 = BitVec.ofNat 32 _
    have hb : (z.toBitVec &&& 255#64).toNat < 256 := by
      rw [BitVec.toNat_and]
      exact Nat.lt_of_le_of_lt Nat.and_le_right (by decide)
    rw [BitVec.signExtend_eq_setWidth_of_le _ (by decide)]
    exact BitVec.eq_of_toNat_eq (by rw [BitVec.toNat_setWidth, BitVec.toNat_ofNat])
/-- byte k of a long -/
noncomputable def byt (b : Int64) (k : Nat) : Nat := (l255 (b >>> ((iN (8 * k)).toInt64 &&& 63))).choose
theorem byt_s (b : Int64) (k : Nat) : byt b k < 256 ∧ ((b >>> ((iN (8 * k)).toInt64 &&& 63)) &&& 255).toInt32 = iN (byt b k) := (l255 (b >>> ((iN (8 * k)).toInt64 &&& 63))).choose_spec
noncomputable def fdL (b : Int64) : Nat → List Nat
  | 0 => []
  | k + 1 => byt b k :: fdL b k
theorem fdL_l (b : Int64) : ∀ n, (fdL b n).length = n
  | 0 => rfl
  | k + 1 => by rw [fdL, List.length_cons, fdL_l b k]
theorem getD_snoc {l : List Nat} {x k : Nat} (hk : k < l.length + 1) : (l ++ [x]).getD k 0 = if k = l.length then x else l.getD k 0 := by
  rw [List.getD_eq_getElem?_getD, List.getD_eq_getElem?_getD]
  by_cases e : k = l.length
  · rw [if_pos e, e, List.getElem?_append_right (Nat.le_refl _), Nat.sub_self]; rfl
  · rw [if_neg e, List.getElem?_append_left (by omega)]
set_option maxRecDepth 100000 in
set_option maxHeartbeats 16000000 in
theorem fd_loop {h0 : qH} {n : Nat} {b : Int64} : ∀ (r : Nat) (tx : List Nat) (h1 : qH), r ≤ 8 → tx.length + r ≤ 160 → TxV h1 tx → Ch [93] [51] h0 h1 → ∃ h', (∀ R, qEv d 0 qk_291 37 [some (.ref 55), some (.int (iN n)), some (.long b), none, some (.int (iN r - iN 1))] [] h1 R ↔ R = (some (.int (iN (tx ++ fdL b r).length)), h')) ∧ Ch [93] [51] h0 h' ∧ TxV h' (tx ++ fdL b r) := by
  intro r
  induction r with
  | zero =>
    intro tx h1 _ _ t c
    have s1 := c.sh
    have m51 := t.2.1
    refine ⟨h1, fun R => ?_, c, by rw [show fdL b 0 = [] from rfl, List.append_nil]; exact t⟩
    rw [show fdL b 0 = [] from rfl, List.append_nil, e291_37, show iN 0 - iN 1 = -iN 1 by decide]
    have q : -iN 1 < iN 0 := by decide
    simp (disch := first | assumption | omega) only [e291_0, e291_1, e291_2, e291_3, e291_6, e291_9, e291_12, e291_15, e291_16, e291_17, e291_20, e291_21, e291_22, e291_25, e291_28, e291_31, e291_32, e291_33, e291_34, e291_35, e291_39, e291_42, e291_43, e291_46, e291_47, e291_50, e291_51, e291_53, e291_55, e291_56, e291_57, e291_60, e291_61, e291_62, e291_63, e291_64, e291_65, e291_68, e291_69, e291_70, e291_73, e291_76, e291_79, e291_80, e291_83, m291, ↓reduceIte, qg_0, qg_1, qg_2, qg_3, qg_4, qg_5, qg_6, qg_7, qg_8, qg_9, qg_10, qg_11, qg_12, qg_13, not_true_eq_false, not_false_eq_true, Nat.reduceBEq, Bool.false_eq_true, ex1, ex3, ex4, exF, qfit_i, qfit_l, qfit_r, qfit_n, qfit_b0, qfit_b1, qcat_i, qcat_r, qcat_n, qcat_l, qroom_0, qroom_c, List.map_cons, List.map_nil, List.sum_cons, List.sum_nil, Nat.reduceAdd, Nat.reduceMul, Nat.reduceLT, Nat.reduceLeDiff, Nat.reduceEqDiff, Nat.reduceSub, decide_true, true_and, and_true, and_self, if_true, if_false, Option.toList_some, Option.toList_none, List.cons_append, List.nil_append, qsL, qlong, List.length_cons, List.length_nil, iN_L, vM1, vM2, exI, iN_add, iN_mul, iN_le, iN_lt, iN_eq, Nat.le_refl, qfN0, qfN1, q, gM_51, m51]
  | succ r ih =>
    intro tx h1 hr hl t c
    have s1 := c.sh
    obtain ⟨t1, m51, t3⟩ := t
    obtain ⟨b1, b2⟩ := byt_s b r
    have er : iN (r + 1) - iN 1 = iN r := iN_sub (a := r + 1) (b := 1) (by omega)
    obtain ⟨g1, eg1⟩ : ∃ g1, g1 = sI h1 93 (upd (hi h1 93) tx.length (iN (byt b r))) := ⟨_, rfl⟩
    have c1 : Ch [93] [51] h0 g1 := c.trans (by rw [eg1]; exact Ch.rowI s1 (kM_93 s1) (by decide))
    have sg1 := c1.sh
    obtain ⟨g2, eg2⟩ : ∃ g2, g2 = mI g1 51 (iN (tx.length + 1)) := ⟨_, rfl⟩
    have c2 : Ch [93] [51] h0 g2 := c1.trans (by rw [eg2]; exact Ch.setI sg1 (by decide) (by decide))
    have w1 : qiast h1 93 (iN tx.length) (iN (byt b r)) = some g1 := by rw [eg1]; exact wM_93 s1 (by omega)
    have m1 : mi g1 51 = iN tx.length := by rw [eg1, mi_sI (kM_93 s1)]; exact m51
    have w2 : qput g1 55 11 51 (.int (iN (tx.length + 1))) = some g2 := by rw [eg2]; exact pM_51 sg1
    have t2 : TxV g2 (tx ++ [byt b r]) := by
      refine ⟨by rw [List.length_append, List.length_singleton]; omega, by rw [eg2, mi_mI, if_pos rfl, List.length_append, List.length_singleton], fun k hk => ?_⟩
      rw [List.length_append, List.length_singleton] at hk
      rw [getD_snoc hk, eg2, hi_mI sg1, eg1, hi_sI, if_pos rfl, upd_at]
      by_cases e : k = tx.length
      · rw [if_pos e, if_pos e]; exact ⟨rfl, b1⟩
      · rw [if_neg e, if_neg e]; exact t3 k (by omega)
    obtain ⟨h', r', c', t'⟩ := ih (tx ++ [byt b r]) g2 (by omega) (by rw [List.length_append, List.length_singleton]; omega) t2 c2
    rw [List.append_assoc, List.singleton_append] at r' t'
    refine ⟨h', fun R => ?_, c', t'⟩
    rw [show fdL b (r + 1) = byt b r :: fdL b r from rfl, ← r' R, er, e291_37]
    have er' : iN r + -iN 1 = iN r - iN 1 := by rw [Int32.sub_eq_add_neg]
    simp (disch := first | assumption | omega) only [e291_0, e291_1, e291_2, e291_3, e291_6, e291_9, e291_12, e291_15, e291_16, e291_17, e291_20, e291_21, e291_22, e291_25, e291_28, e291_31, e291_32, e291_33, e291_34, e291_35, e291_39, e291_42, e291_43, e291_46, e291_47, e291_50, e291_51, e291_53, e291_55, e291_56, e291_57, e291_60, e291_61, e291_62, e291_63, e291_64, e291_65, e291_68, e291_69, e291_70, e291_73, e291_76, e291_79, e291_80, e291_83, m291, ↓reduceIte, qg_0, qg_1, qg_2, qg_3, qg_4, qg_5, qg_6, qg_7, qg_8, qg_9, qg_10, qg_11, qg_12, qg_13, not_true_eq_false, not_false_eq_true, Nat.reduceBEq, Bool.false_eq_true, ex1, ex3, ex4, exF, qfit_i, qfit_l, qfit_r, qfit_n, qfit_b0, qfit_b1, qcat_i, qcat_r, qcat_n, qcat_l, qroom_0, qroom_c, List.map_cons, List.map_nil, List.sum_cons, List.sum_nil, Nat.reduceAdd, Nat.reduceMul, Nat.reduceLT, Nat.reduceLeDiff, Nat.reduceEqDiff, Nat.reduceSub, decide_true, true_and, and_true, and_self, if_true, if_false, Option.toList_some, Option.toList_none, List.cons_append, List.nil_append, qsL, qlong, List.length_cons, List.length_nil, iN_L, vM1, vM2, exI, iN_add, iN_mul, iN_le, iN_lt, iN_eq, Nat.le_refl, qfN0, qfN1, gM_50, gM_51, m51, b2, w1, m1, w2, er', show ¬ r < 0 by omega]
/-- what `feed` answers and leaves -/
noncomputable def fedR (tx : List Nat) (x : Int32) (b : Int64) (v : Int32) (tx' : List Nat) : Prop := ((¬ ∃ n, (1 ≤ n ∧ n ≤ 8) ∧ x = iN n) ∧ v = -1002 ∧ tx' = tx) ∨ ∃ n, ((1 ≤ n ∧ n ≤ 8) ∧ x = iN n) ∧ ((160 < tx.length + n ∧ v = -1004 ∧ tx' = tx) ∨ (tx.length + n ≤ 160 ∧ v = iN (tx ++ fdL b n).length ∧ tx' = tx ++ fdL b n))
set_option maxRecDepth 100000 in
set_option maxHeartbeats 16000000 in
theorem s_feed {x : Int32} {b : Int64} (s : ShM h) (t : TxV h tx) : ∃ h' r tx', (∀ R, qMC (d + 2) 291 [.ref 55, .int x, .long b] h R ↔ R = (some (.int r), h')) ∧ Ch [93] [51] h h' ∧ TxV h' tx' ∧ fedR tx x b r tx' := by
  have rng : ((1 : Int64) ≤ x.toInt64 ∧ x.toInt64 ≤ (8 : Int64)) ↔ ∃ n, (1 ≤ n ∧ n ≤ 8) ∧ x = iN n := rng_N (x := x) (a := 1) (b := 8) (by omega) (by omega)
  have m51 := t.2.1
  have t1 := t.1
  by_cases hx : ∃ n, (1 ≤ n ∧ n ≤ 8) ∧ x = iN n
  · have hb : bI ((1 : Int64) ≤ x.toInt64 ∧ x.toInt64 ≤ (8 : Int64)) = iN 1 := if_pos (rng.mpr hx)
    obtain ⟨n, hn, rfl⟩ := hx
    by_cases hl : tx.length + n ≤ 160
    · obtain ⟨h', r, c, t'⟩ := fd_loop (d := d + 1) (n := n) (b := b) n tx h hn.2 hl t (Ch.refl s)
      refine ⟨h', _, _, fun R => ?_, c, t', Or.inr ⟨n, ⟨hn, rfl⟩, Or.inr ⟨hl, rfl, rfl⟩⟩⟩
      rw [← r R]
      simp (disch := first | assumption | omega) only [e291_0, e291_1, e291_2, e291_3, e291_6, e291_9, e291_12, e291_15, e291_16, e291_17, e291_20, e291_21, e291_22, e291_25, e291_28, e291_31, e291_32, e291_33, e291_34, e291_35, e291_39, e291_42, e291_43, e291_46, e291_47, e291_50, e291_51, e291_53, e291_55, e291_56, e291_57, e291_60, e291_61, e291_62, e291_63, e291_64, e291_65, e291_68, e291_69, e291_70, e291_73, e291_76, e291_79, e291_80, e291_83, m291, ↓reduceIte, qg_0, qg_1, qg_2, qg_3, qg_4, qg_5, qg_6, qg_7, qg_8, qg_9, qg_10, qg_11, qg_12, qg_13, not_true_eq_false, not_false_eq_true, Nat.reduceBEq, Bool.false_eq_true, ex1, ex3, ex4, exF, qfit_i, qfit_l, qfit_r, qfit_n, qfit_b0, qfit_b1, qcat_i, qcat_r, qcat_n, qcat_l, qroom_0, qroom_c, List.map_cons, List.map_nil, List.sum_cons, List.sum_nil, Nat.reduceAdd, Nat.reduceMul, Nat.reduceLT, Nat.reduceLeDiff, Nat.reduceEqDiff, Nat.reduceSub, decide_true, true_and, and_true, and_self, if_true, if_false, Option.toList_some, Option.toList_none, List.cons_append, List.nil_append, qsL, qlong, List.length_cons, List.length_nil, iN_L, vM1, vM2, exI, iN_add, iN_mul, iN_le, iN_lt, iN_eq, Nat.le_refl, qfN0, qfN1, s_in, hb, iN10, gM_51, m51, hl]
    · refine ⟨h, -1004, tx, fun R => ?_, Ch.refl s, t, Or.inr ⟨n, ⟨hn, rfl⟩, Or.inl ⟨by omega, rfl, rfl⟩⟩⟩
      simp (disch := first | assumption | omega) only [e291_0, e291_1, e291_2, e291_3, e291_6, e291_9, e291_12, e291_15, e291_16, e291_17, e291_20, e291_21, e291_22, e291_25, e291_28, e291_31, e291_32, e291_33, e291_34, e291_35, e291_39, e291_42, e291_43, e291_46, e291_47, e291_50, e291_51, e291_53, e291_55, e291_56, e291_57, e291_60, e291_61, e291_62, e291_63, e291_64, e291_65, e291_68, e291_69, e291_70, e291_73, e291_76, e291_79, e291_80, e291_83, m291, ↓reduceIte, qg_0, qg_1, qg_2, qg_3, qg_4, qg_5, qg_6, qg_7, qg_8, qg_9, qg_10, qg_11, qg_12, qg_13, not_true_eq_false, not_false_eq_true, Nat.reduceBEq, Bool.false_eq_true, ex1, ex3, ex4, exF, qfit_i, qfit_l, qfit_r, qfit_n, qfit_b0, qfit_b1, qcat_i, qcat_r, qcat_n, qcat_l, qroom_0, qroom_c, List.map_cons, List.map_nil, List.sum_cons, List.sum_nil, Nat.reduceAdd, Nat.reduceMul, Nat.reduceLT, Nat.reduceLeDiff, Nat.reduceEqDiff, Nat.reduceSub, decide_true, true_and, and_true, and_self, if_true, if_false, Option.toList_some, Option.toList_none, List.cons_append, List.nil_append, qsL, qlong, List.length_cons, List.length_nil, iN_L, vM1, vM2, exI, iN_add, iN_mul, iN_le, iN_lt, iN_eq, Nat.le_refl, qfN0, qfN1, s_in, hb, iN10, gM_51, m51, hl]
  · have hb : bI ((1 : Int64) ≤ x.toInt64 ∧ x.toInt64 ≤ (8 : Int64)) = iN 0 := if_neg (fun w => hx (rng.mp w))
    refine ⟨h, -1002, tx, fun R => ?_, Ch.refl s, t, Or.inl ⟨hx, rfl, rfl⟩⟩
    simp (disch := first | assumption | omega) only [e291_0, e291_1, e291_2, e291_3, e291_6, e291_9, e291_12, e291_15, e291_16, e291_17, e291_20, e291_21, e291_22, e291_25, e291_28, e291_31, e291_32, e291_33, e291_34, e291_35, e291_39, e291_42, e291_43, e291_46, e291_47, e291_50, e291_51, e291_53, e291_55, e291_56, e291_57, e291_60, e291_61, e291_62, e291_63, e291_64, e291_65, e291_68, e291_69, e291_70, e291_73, e291_76, e291_79, e291_80, e291_83, m291, ↓reduceIte, qg_0, qg_1, qg_2, qg_3, qg_4, qg_5, qg_6, qg_7, qg_8, qg_9, qg_10, qg_11, qg_12, qg_13, not_true_eq_false, not_false_eq_true, Nat.reduceBEq, Bool.false_eq_true, ex1, ex3, ex4, exF, qfit_i, qfit_l, qfit_r, qfit_n, qfit_b0, qfit_b1, qcat_i, qcat_r, qcat_n, qcat_l, qroom_0, qroom_c, List.map_cons, List.map_nil, List.sum_cons, List.sum_nil, Nat.reduceAdd, Nat.reduceMul, Nat.reduceLT, Nat.reduceLeDiff, Nat.reduceEqDiff, Nat.reduceSub, decide_true, true_and, and_true, and_self, if_true, if_false, Option.toList_some, Option.toList_none, List.cons_append, List.nil_append, qsL, qlong, List.length_cons, List.length_nil, iN_L, vM1, vM2, exI, iN_add, iN_mul, iN_le, iN_lt, iN_eq, Nat.le_refl, qfN0, qfN1, s_in, hb]
/-- the byte at a place, -1 behind the end -/
def hrV (tx : List Nat) (b : Nat) : Int32 := if b < tx.length then iN (tx.getD b 0) else -iN 1
set_option maxRecDepth 100000 in
set_option maxHeartbeats 16000000 in
theorem he_loop {h0 : qH} (t : TxV h0 tx) : ∀ (w a : Nat) (h1 : qH), a + w = tx.length → Ch [] [53] h0 h1 → mi h1 53 = iN a → ∃ h', (∀ R, qEv d 0 qk_292 0 [some (.ref 55)] [] h1 R ↔ R = (some (.int (hrV tx (skp tx a))), h')) ∧ Ch [] [53] h0 h' ∧ mi h' 53 = iN (skp tx a) := by
  have t1 := t.1
  intro w
  induction w with
  | zero =>
    intro a h1 ha c m53
    have s1 := c.sh
    obtain ⟨-, m51, -⟩ := t.ch c (by decide) (by decide)
    have es : skp tx a = a := skp_end (by omega)
    have ev : hrV tx (skp tx a) = -iN 1 := by unfold hrV; rw [es, if_neg (by omega)]
    refine ⟨h1, fun R => ?_, c, by rw [es]; exact m53⟩
    rw [ev, e292_0]
    simp (disch := first | assumption | omega) only [e292_1, e292_4, e292_5, e292_8, e292_11, e292_12, e292_15, e292_16, e292_19, e292_20, e292_22, e292_25, e292_26, e292_27, e292_30, e292_31, e292_32, e292_35, e292_38, e292_39, e292_42, e292_43, e292_46, e292_49, e292_50, e292_53, e292_54, e292_57, e292_58, e292_61, e292_62, m292, ↓reduceIte, qg_0, qg_1, qg_2, qg_3, qg_4, qg_5, qg_6, qg_7, qg_8, qg_9, qg_10, qg_11, qg_12, qg_13, not_true_eq_false, not_false_eq_true, Nat.reduceBEq, Bool.false_eq_true, ex1, ex3, ex4, exF, qfit_i, qfit_l, qfit_r, qfit_n, qfit_b0, qfit_b1, qcat_i, qcat_r, qcat_n, qcat_l, qroom_0, qroom_c, List.map_cons, List.map_nil, List.sum_cons, List.sum_nil, Nat.reduceAdd, Nat.reduceMul, Nat.reduceLT, Nat.reduceLeDiff, Nat.reduceEqDiff, Nat.reduceSub, decide_true, true_and, and_true, and_self, if_true, if_false, Option.toList_some, Option.toList_none, List.cons_append, List.nil_append, qsL, qlong, List.length_cons, List.length_nil, iN_L, vM1, vM2, exI, iN_add, iN_mul, iN_le, iN_lt, iN_eq, Nat.le_refl, qfN0, qfN1, gM_53, m53, gM_51, m51, show tx.length ≤ a by omega]
  | succ w ih =>
    intro a h1 ha c m53
    have s1 := c.sh
    obtain ⟨-, m51, t3⟩ := t.ch c (by decide) (by decide)
    obtain ⟨v1, v2⟩ := t3 a (by omega)
    by_cases q : tx.getD a 0 = 32
    · obtain ⟨g, eg⟩ : ∃ g, g = mI h1 53 (iN (a + 1)) := ⟨_, rfl⟩
      have cg : Ch [] [53] h0 g := c.trans (by rw [eg]; exact Ch.setI s1 (by decide) (by decide))
      obtain ⟨h', r, c', m'⟩ := ih (a + 1) g (by omega) cg (by rw [eg, mi_mI, if_pos rfl])
      rw [← skp_in (by omega) q] at r m'
      have w1 : qput h1 55 11 53 (.int (iN (a + 1))) = some g := by rw [eg]; exact pM_53 s1
      refine ⟨h', fun R => ?_, c', m'⟩
      rw [← r R, e292_0]
      simp (disch := first | assumption | omega) only [e292_1, e292_4, e292_5, e292_8, e292_11, e292_12, e292_15, e292_16, e292_19, e292_20, e292_22, e292_25, e292_26, e292_27, e292_30, e292_31, e292_32, e292_35, e292_38, e292_39, e292_42, e292_43, e292_46, e292_49, e292_50, e292_53, e292_54, e292_57, e292_58, e292_61, e292_62, m292, ↓reduceIte, qg_0, qg_1, qg_2, qg_3, qg_4, qg_5, qg_6, qg_7, qg_8, qg_9, qg_10, qg_11, qg_12, qg_13, not_true_eq_false, not_false_eq_true, Nat.reduceBEq, Bool.false_eq_true, ex1, ex3, ex4, exF, qfit_i, qfit_l, qfit_r, qfit_n, qfit_b0, qfit_b1, qcat_i, qcat_r, qcat_n, qcat_l, qroom_0, qroom_c, List.map_cons, List.map_nil, List.sum_cons, List.sum_nil, Nat.reduceAdd, Nat.reduceMul, Nat.reduceLT, Nat.reduceLeDiff, Nat.reduceEqDiff, Nat.reduceSub, decide_true, true_and, and_true, and_self, if_true, if_false, Option.toList_some, Option.toList_none, List.cons_append, List.nil_append, qsL, qlong, List.length_cons, List.length_nil, iN_L, vM1, vM2, exI, iN_add, iN_mul, iN_le, iN_lt, iN_eq, Nat.le_refl, qfN0, qfN1, gM_53, m53, gM_51, m51, show ¬ tx.length ≤ a by omega, gM_50, rM_93, v1, q, w1]
    · have es : skp tx a = a := skp_no (by omega) q
      have ev : hrV tx (skp tx a) = iN (tx.getD a 0) := by unfold hrV; rw [es, if_pos (by omega)]
      refine ⟨h1, fun R => ?_, c, by rw [es]; exact m53⟩
      rw [ev, e292_0]
      simp (disch := first | assumption | omega) only [e292_1, e292_4, e292_5, e292_8, e292_11, e292_12, e292_15, e292_16, e292_19, e292_20, e292_22, e292_25, e292_26, e292_27, e292_30, e292_31, e292_32, e292_35, e292_38, e292_39, e292_42, e292_43, e292_46, e292_49, e292_50, e292_53, e292_54, e292_57, e292_58, e292_61, e292_62, m292, ↓reduceIte, qg_0, qg_1, qg_2, qg_3, qg_4, qg_5, qg_6, qg_7, qg_8, qg_9, qg_10, qg_11, qg_12, qg_13, not_true_eq_false, not_false_eq_true, Nat.reduceBEq, Bool.false_eq_true, ex1, ex3, ex4, exF, qfit_i, qfit_l, qfit_r, qfit_n, qfit_b0, qfit_b1, qcat_i, qcat_r, qcat_n, qcat_l, qroom_0, qroom_c, List.map_cons, List.map_nil, List.sum_cons, List.sum_nil, Nat.reduceAdd, Nat.reduceMul, Nat.reduceLT, Nat.reduceLeDiff, Nat.reduceEqDiff, Nat.reduceSub, decide_true, true_and, and_true, and_self, if_true, if_false, Option.toList_some, Option.toList_none, List.cons_append, List.nil_append, qsL, qlong, List.length_cons, List.length_nil, iN_L, vM1, vM2, exI, iN_add, iN_mul, iN_le, iN_lt, iN_eq, Nat.le_refl, qfN0, qfN1, gM_53, m53, gM_51, m51, show ¬ tx.length ≤ a by omega, gM_50, rM_93, v1, q]
theorem s_here {a : Nat} (s : ShM h) (t : TxV h tx) (ha : a ≤ tx.length) (m : mi h 53 = iN a) : ∃ h', (∀ R, qMC (d + 1) 292 [.ref 55] h R ↔ R = (some (.int (hrV tx (skp tx a))), h')) ∧ Ch [] [53] h h' ∧ mi h' 53 = iN (skp tx a) := by
  obtain ⟨h', r, c, m'⟩ := he_loop (d := d) t (tx.length - a) a h (by omega) (Ch.refl s) m
  exact ⟨h', fun R => (by rw [m292]; exact r R), c, m'⟩
theorem mi_mW {j : Nat} {x : Int64} (hj : j ≠ 60) : mi (mW h x) j = mi h j := by
  unfold mi mW; rw [hf_sF, if_pos rfl]
  show vI (if j = 60 then _ else _) = _
  rw [if_neg hj]
theorem mw_mI {j : Nat} {x : Int32} (hj : j ≠ 60) : mw (mI h j x) = mw h := by
  unfold mw mI; rw [hf_sF, if_pos rfl]
  show vL (if 60 = j then _ else _) = _
  rw [if_neg (Ne.symm hj)]
theorem mw_mW {x : Int64} : mw (mW h x) = x := by
  unfold mw mW; rw [hf_sF, if_pos rfl]
  rfl
theorem iN_tl {n : Nat} (hn : n < 1000000) : (iN n).toInt64 = lZ (n : Int) := by rw [← iZ_nat, iZ_long ⟨by omega, by omega⟩]
theorem tl_in {n a b : Nat} (hn : n < 1000000) (ha : a < 1000000) (hb : b < 1000000) : (lZ (a : Int) ≤ (iN n).toInt64 ∧ (iN n).toInt64 ≤ lZ (b : Int)) ↔ a ≤ n ∧ n ≤ b := by
  rw [iN_tl hn, lZ_le ⟨by omega, by omega⟩ ⟨by omega, by omega⟩, lZ_le ⟨by omega, by omega⟩ ⟨by omega, by omega⟩]
  omega
set_option maxRecDepth 100000 in
set_option maxHeartbeats 16000000 in
theorem rw_loop {h0 : qH} {x1 : Option Value} (t : TxV h0 tx) : ∀ (w e : Nat) (acc : Int) (h1 : qH), e + w = tx.length → Ch [] [53, 60, 61] h0 h1 → mi h1 61 = iN e → mw h1 = lZ acc → (0 ≤ acc ∧ acc ≤ 300000000000) → mi h1 53 = mi h1 53 → ∃ h', (∀ R, qEv (d + 1) 4 qk_294 18 [some (.ref 55), x1] [] h1 R ↔ R = (none, h')) ∧ Ch [] [53, 60, 61] h0 h' ∧ mi h' 61 = iN (e + (wdE tx e).length) ∧ mw h' = lZ (wcA acc (wdE tx e)) ∧ mi h' 53 = mi h1 53 := by
  have t1 := t.1
  intro w
  induction w with
  | zero =>
    intro e acc h1 he c m61 mw1 ha _
    have s1 := c.sh
    obtain ⟨-, m51, -⟩ := t.ch c (by decide) (by decide)
    have es : wdE tx e = [] := tk_end (by omega)
    refine ⟨h1, fun R => ?_, c, by rw [es]; exact m61, by rw [es]; exact mw1, rfl⟩
    rw [e294_18]
    simp (disch := first | assumption | omega) only [e294_0, e294_1, e294_4, e294_5, e294_6, e294_7, e294_10, e294_11, e294_12, e294_15, e294_19, e294_22, e294_23, e294_26, e294_29, e294_30, e294_33, e294_34, e294_37, e294_38, e294_39, e294_42, e294_45, e294_48, e294_51, e294_52, e294_53, e294_56, e294_59, e294_60, e294_63, e294_66, e294_69, e294_72, e294_73, e294_76, e294_77, e294_78, e294_81, e294_82, e294_85, e294_86, e294_87, e294_88, e294_91, e294_92, e294_95, e294_96, e294_97, e294_100, e294_101, e294_102, e294_105, e294_108, m294, ↓reduceIte, qg_0, qg_1, qg_2, qg_3, qg_4, qg_5, qg_6, qg_7, qg_8, qg_9, qg_10, qg_11, qg_12, qg_13, not_true_eq_false, not_false_eq_true, Nat.reduceBEq, Bool.false_eq_true, ex1, ex3, ex4, exF, qfit_i, qfit_l, qfit_r, qfit_n, qfit_b0, qfit_b1, qcat_i, qcat_r, qcat_n, qcat_l, qroom_0, qroom_c, List.map_cons, List.map_nil, List.sum_cons, List.sum_nil, Nat.reduceAdd, Nat.reduceMul, Nat.reduceLT, Nat.reduceLeDiff, Nat.reduceEqDiff, Nat.reduceSub, decide_true, true_and, and_true, and_self, if_true, if_false, Option.toList_some, Option.toList_none, List.cons_append, List.nil_append, qsL, qlong, List.length_cons, List.length_nil, iN_L, vM1, vM2, exI, iN_add, iN_mul, iN_le, iN_lt, iN_eq, Nat.le_refl, qfN0, qfN1, gM_61, m61, gM_51, m51, show tx.length ≤ e by omega]
  | succ w ih =>
    intro e acc h1 he c m61 mw1 ha _
    have s1 := c.sh
    obtain ⟨-, m51, t3⟩ := t.ch c (by decide) (by decide)
    obtain ⟨v1, v2⟩ := t3 e (by omega)
    have rng := tl_in (n := tx.getD e 0) (a := 97) (b := 122) (by omega) (by omega) (by omega)
    by_cases q : isLt (tx.getD e 0) = true
    · have q' : 97 ≤ tx.getD e 0 ∧ tx.getD e 0 ≤ 122 := of_decide_eq_true q
      have hb : bI ((97 : Int64) ≤ (iN (tx.getD e 0)).toInt64 ∧ (iN (tx.getD e 0)).toInt64 ≤ (122 : Int64)) = iN 1 := if_pos (rng.mpr q')
      obtain ⟨g, eg⟩ : ∃ g, g = mW h1 (lZ (wcF acc (tx.getD e 0))) := ⟨_, rfl⟩
      have cg : Ch [] [53, 60, 61] h0 g := c.trans (by rw [eg]; exact Ch.setW s1 (by decide))
      have sg := cg.sh
      obtain ⟨g2, eg2⟩ : ∃ g2, g2 = mI g 61 (iN (e + 1)) := ⟨_, rfl⟩
      have cg2 : Ch [] [53, 60, 61] h0 g2 := cg.trans (by rw [eg2]; exact Ch.setI sg (by decide) (by decide))
      have p1 : qput h1 55 11 60 (.long (lZ (wcF acc (tx.getD e 0)))) = some g := by rw [eg]; exact pM_60 s1
      have p2 : qput g 55 11 61 (.int (iN (e + 1))) = some g2 := by rw [eg2]; exact pM_61 sg
      have k61 : mi g 61 = iN e := by rw [eg, mi_mW (by decide)]; exact m61
      have k53 : mi g2 53 = mi h1 53 := by rw [eg2, mi_mI, if_neg (by decide), eg, mi_mW (by decide)]
      have kw : mw g2 = lZ (wcF acc (tx.getD e 0)) := by rw [eg2, mw_mI (by decide), eg, mw_mW]
      obtain ⟨h', r, c', a1, a2, a3⟩ := ih (e + 1) (wcF acc (tx.getD e 0)) g2 (by omega) cg2 (by rw [eg2, mi_mI, if_pos rfl]) kw (by unfold wcF; split <;> omega) rfl
      have ew : wdE tx e = tx.getD e 0 :: wdE tx (e + 1) := tk_in (by omega) q
      refine ⟨h', fun R => ?_, c', by rw [ew, List.length_cons, a1]; congr 1; omega, by rw [ew, wcA_cons]; exact a2, by rw [a3, k53]⟩
      rw [← r R, e294_18]
      by_cases z : 10000000000 < acc
      · have z1 : ¬ lg_cmp (lZ acc) 10000000000 ≤ iN 0 := by rw [lgN_le, show (10000000000 : Int64) = lZ 10000000000 from rfl, lZ_le ⟨by omega, by omega⟩ ⟨by omega, by omega⟩]; omega
        have z2 : wcF acc (tx.getD e 0) = 20000000000 := by unfold wcF; rw [if_pos z]
        rw [z2] at p1
        have p1' : qput h1 55 11 60 (.long 20000000000) = some g := p1
        simp (disch := first | assumption | omega) only [e294_0, e294_1, e294_4, e294_5, e294_6, e294_7, e294_10, e294_11, e294_12, e294_15, e294_19, e294_22, e294_23, e294_26, e294_29, e294_30, e294_33, e294_34, e294_37, e294_38, e294_39, e294_42, e294_45, e294_48, e294_51, e294_52, e294_53, e294_56, e294_59, e294_60, e294_63, e294_66, e294_69, e294_72, e294_73, e294_76, e294_77, e294_78, e294_81, e294_82, e294_85, e294_86, e294_87, e294_88, e294_91, e294_92, e294_95, e294_96, e294_97, e294_100, e294_101, e294_102, e294_105, e294_108, m294, ↓reduceIte, qg_0, qg_1, qg_2, qg_3, qg_4, qg_5, qg_6, qg_7, qg_8, qg_9, qg_10, qg_11, qg_12, qg_13, not_true_eq_false, not_false_eq_true, Nat.reduceBEq, Bool.false_eq_true, ex1, ex3, ex4, exF, qfit_i, qfit_l, qfit_r, qfit_n, qfit_b0, qfit_b1, qcat_i, qcat_r, qcat_n, qcat_l, qroom_0, qroom_c, List.map_cons, List.map_nil, List.sum_cons, List.sum_nil, Nat.reduceAdd, Nat.reduceMul, Nat.reduceLT, Nat.reduceLeDiff, Nat.reduceEqDiff, Nat.reduceSub, decide_true, true_and, and_true, and_self, if_true, if_false, Option.toList_some, Option.toList_none, List.cons_append, List.nil_append, qsL, qlong, List.length_cons, List.length_nil, iN_L, vM1, vM2, exI, iN_add, iN_mul, iN_le, iN_lt, iN_eq, Nat.le_refl, qfN0, qfN1, gM_61, m61, gM_51, m51, show ¬ tx.length ≤ e by omega, gM_50, rM_93, v1, s_in, hb, iN10, gM_60, mw1, z1, p1', k61, p2]
      · have z1 : lg_cmp (lZ acc) 10000000000 ≤ iN 0 := by rw [lgN_le, show (10000000000 : Int64) = lZ 10000000000 from rfl, lZ_le ⟨by omega, by omega⟩ ⟨by omega, by omega⟩]; omega
        have z2 : 27 * lZ acc + (iN (tx.getD e 0)).toInt64 - 96 = lZ (wcF acc (tx.getD e 0)) := by
          unfold wcF
          rw [if_neg z, iN_tl (by omega), show (27 : Int64) = lZ 27 from rfl, show (96 : Int64) = lZ 96 from rfl, lZ_mul, lZ_add, lZ_sub]
        simp (disch := first | assumption | omega) only [e294_0, e294_1, e294_4, e294_5, e294_6, e294_7, e294_10, e294_11, e294_12, e294_15, e294_19, e294_22, e294_23, e294_26, e294_29, e294_30, e294_33, e294_34, e294_37, e294_38, e294_39, e294_42, e294_45, e294_48, e294_51, e294_52, e294_53, e294_56, e294_59, e294_60, e294_63, e294_66, e294_69, e294_72, e294_73, e294_76, e294_77, e294_78, e294_81, e294_82, e294_85, e294_86, e294_87, e294_88, e294_91, e294_92, e294_95, e294_96, e294_97, e294_100, e294_101, e294_102, e294_105, e294_108, m294, ↓reduceIte, qg_0, qg_1, qg_2, qg_3, qg_4, qg_5, qg_6, qg_7, qg_8, qg_9, qg_10, qg_11, qg_12, qg_13, not_true_eq_false, not_false_eq_true, Nat.reduceBEq, Bool.false_eq_true, ex1, ex3, ex4, exF, qfit_i, qfit_l, qfit_r, qfit_n, qfit_b0, qfit_b1, qcat_i, qcat_r, qcat_n, qcat_l, qroom_0, qroom_c, List.map_cons, List.map_nil, List.sum_cons, List.sum_nil, Nat.reduceAdd, Nat.reduceMul, Nat.reduceLT, Nat.reduceLeDiff, Nat.reduceEqDiff, Nat.reduceSub, decide_true, true_and, and_true, and_self, if_true, if_false, Option.toList_some, Option.toList_none, List.cons_append, List.nil_append, qsL, qlong, List.length_cons, List.length_nil, iN_L, vM1, vM2, exI, iN_add, iN_mul, iN_le, iN_lt, iN_eq, Nat.le_refl, qfN0, qfN1, gM_61, m61, gM_51, m51, show ¬ tx.length ≤ e by omega, gM_50, rM_93, v1, s_in, hb, iN10, gM_60, mw1, z1, z2, p1, k61, p2]
    · have q' : ¬ (97 ≤ tx.getD e 0 ∧ tx.getD e 0 ≤ 122) := fun z => q (decide_eq_true z)
      have hb : bI ((97 : Int64) ≤ (iN (tx.getD e 0)).toInt64 ∧ (iN (tx.getD e 0)).toInt64 ≤ (122 : Int64)) = iN 0 := if_neg (fun z => q' (rng.mp z))
      have es : wdE tx e = [] := tk_no (by omega) q
      refine ⟨h1, fun R => ?_, c, by rw [es]; exact m61, by rw [es]; exact mw1, rfl⟩
      rw [e294_18]
      simp (disch := first | assumption | omega) only [e294_0, e294_1, e294_4, e294_5, e294_6, e294_7, e294_10, e294_11, e294_12, e294_15, e294_19, e294_22, e294_23, e294_26, e294_29, e294_30, e294_33, e294_34, e294_37, e294_38, e294_39, e294_42, e294_45, e294_48, e294_51, e294_52, e294_53, e294_56, e294_59, e294_60, e294_63, e294_66, e294_69, e294_72, e294_73, e294_76, e294_77, e294_78, e294_81, e294_82, e294_85, e294_86, e294_87, e294_88, e294_91, e294_92, e294_95, e294_96, e294_97, e294_100, e294_101, e294_102, e294_105, e294_108, m294, ↓reduceIte, qg_0, qg_1, qg_2, qg_3, qg_4, qg_5, qg_6, qg_7, qg_8, qg_9, qg_10, qg_11, qg_12, qg_13, not_true_eq_false, not_false_eq_true, Nat.reduceBEq, Bool.false_eq_true, ex1, ex3, ex4, exF, qfit_i, qfit_l, qfit_r, qfit_n, qfit_b0, qfit_b1, qcat_i, qcat_r, qcat_n, qcat_l, qroom_0, qroom_c, List.map_cons, List.map_nil, List.sum_cons, List.sum_nil, Nat.reduceAdd, Nat.reduceMul, Nat.reduceLT, Nat.reduceLeDiff, Nat.reduceEqDiff, Nat.reduceSub, decide_true, true_and, and_true, and_self, if_true, if_false, Option.toList_some, Option.toList_none, List.cons_append, List.nil_append, qsL, qlong, List.length_cons, List.length_nil, iN_L, vM1, vM2, exI, iN_add, iN_mul, iN_le, iN_lt, iN_eq, Nat.le_refl, qfN0, qfN1, gM_61, m61, gM_51, m51, show ¬ tx.length ≤ e by omega, gM_50, rM_93, v1, s_in, hb]
/-- the word that stands here -/
def WdV (h : qH) (tx : List Nat) (b : Nat) : Prop := mi h 53 = iN b ∧ mi h 61 = iN (b + (wdE tx b).length) ∧ mw h = lZ (wcA 0 (wdE tx b))
set_option maxRecDepth 100000 in
set_option maxHeartbeats 16000000 in
theorem s_readWord {a : Nat} (s : ShM h) (t : TxV h tx) (ha : a ≤ tx.length) (m : mi h 53 = iN a) : ∃ h', (∀ R, qMC (d + 2) 294 [.ref 55] h R ↔ R = (none, h')) ∧ Ch [] [53, 60, 61] h h' ∧ WdV h' tx (skp tx a) := by
  obtain ⟨h1, r1, c1, m1⟩ := s_here (d := d) s t ha m
  have s1 := c1.sh
  have c1' : Ch [] [53, 60, 61] h h1 := c1.mono (by decide) (by decide)
  obtain ⟨g, eg⟩ : ∃ g, g = mW h1 0 := ⟨_, rfl⟩
  have cg : Ch [] [53, 60, 61] h g := c1'.trans (by rw [eg]; exact Ch.setW s1 (by decide))
  have sg := cg.sh
  obtain ⟨g2, eg2⟩ : ∃ g2, g2 = mI g 61 (iN (skp tx a)) := ⟨_, rfl⟩
  have cg2 : Ch [] [53, 60, 61] h g2 := cg.trans (by rw [eg2]; exact Ch.setI sg (by decide) (by decide))
  have p1 : qput h1 55 11 60 (.long 0) = some g := by rw [eg]; exact pM_60 s1
  have p2 : qput g 55 11 61 (.int (iN (skp tx a))) = some g2 := by rw [eg2]; exact pM_61 sg
  have k53 : mi g 53 = iN (skp tx a) := by rw [eg, mi_mW (by decide)]; exact m1
  have k53' : mi g2 53 = iN (skp tx a) := by rw [eg2, mi_mI, if_neg (by decide)]; exact k53
  have hl := skp_le ha
  obtain ⟨h', r, c', a1, a2, a3⟩ := rw_loop (d := d) (x1 := some (.int (hrV tx (skp tx a)))) t (tx.length - skp tx a) (skp tx a) 0 g2 (by omega) cg2 (by rw [eg2, mi_mI, if_pos rfl]) (by rw [eg2, mw_mI (by decide), eg, mw_mW]; rfl) (by omega) rfl
  refine ⟨h', fun R => ?_, c', by rw [a3]; exact k53', a1, a2⟩
  rw [← r R]
  simp (disch := first | assumption | omega) only [e294_0, e294_1, e294_4, e294_5, e294_6, e294_7, e294_10, e294_11, e294_12, e294_15, e294_19, e294_22, e294_23, e294_26, e294_29, e294_30, e294_33, e294_34, e294_37, e294_38, e294_39, e294_42, e294_45, e294_48, e294_51, e294_52, e294_53, e294_56, e294_59, e294_60, e294_63, e294_66, e294_69, e294_72, e294_73, e294_76, e294_77, e294_78, e294_81, e294_82, e294_85, e294_86, e294_87, e294_88, e294_91, e294_92, e294_95, e294_96, e294_97, e294_100, e294_101, e294_102, e294_105, e294_108, m294, ↓reduceIte, qg_0, qg_1, qg_2, qg_3, qg_4, qg_5, qg_6, qg_7, qg_8, qg_9, qg_10, qg_11, qg_12, qg_13, not_true_eq_false, not_false_eq_true, Nat.reduceBEq, Bool.false_eq_true, ex1, ex3, ex4, exF, qfit_i, qfit_l, qfit_r, qfit_n, qfit_b0, qfit_b1, qcat_i, qcat_r, qcat_n, qcat_l, qroom_0, qroom_c, List.map_cons, List.map_nil, List.sum_cons, List.sum_nil, Nat.reduceAdd, Nat.reduceMul, Nat.reduceLT, Nat.reduceLeDiff, Nat.reduceEqDiff, Nat.reduceSub, decide_true, true_and, and_true, and_self, if_true, if_false, Option.toList_some, Option.toList_none, List.cons_append, List.nil_append, qsL, qlong, List.length_cons, List.length_nil, iN_L, vM1, vM2, exI, iN_add, iN_mul, iN_le, iN_lt, iN_eq, Nat.le_refl, qfN0, qfN1, r1, p1, gM_53, k53, p2]
end TEXTR

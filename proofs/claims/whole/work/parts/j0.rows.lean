/-! ===== THE CLASS: rows of differences ===== -/
section XROWS
variable {d : Nat} {h : qH} {R : qRes}
/-- the rows and the plane of the hull, as numbers -/
def rwR (h : qH) (E : Nat → Nat → Int) : Nat → Int64 := fun x => if x < 16 then lZ (E (x / 4) (x % 4)) else hl h 23 x
def plR (h : qH) (P : Nat → Int) : Nat → Int64 := fun x => if x < 5 then lZ (P x) else hl h 24 x
def H2 (h : qH) (E : Nat → Nat → Int) (P : Nat → Int) : qH := sL (sL h 23 (rwR h E)) 24 (plR h P)
def updE (E : Nat → Nat → Int) (r : Nat) (f : Nat → Int) : Nat → Nat → Int := fun a k => if a = r ∧ k < 4 then f k else E a k
theorem H2_k24 (s : ShX h) {E : Nat → Nat → Int} : kL (sL h 23 (rwR h E)) 24 5 := (hKd_sL (kX_23 s)).2.2.1 _ _ (kX_24 s)
theorem H2_k23 (s : ShX h) {E : Nat → Nat → Int} {P : Nat → Int} : kL (H2 h E P) 23 16 := (hKd_sL (H2_k24 s)).2.2.1 _ _ ((hKd_sL (kX_23 s)).2.2.1 _ _ (kX_23 s))
theorem H2_k24' (s : ShX h) {E : Nat → Nat → Int} {P : Nat → Int} : kL (H2 h E P) 24 5 := (hKd_sL (H2_k24 s)).2.2.1 _ _ (H2_k24 s)
theorem H2_23 (s : ShX h) {E : Nat → Nat → Int} {P : Nat → Int} : hl (H2 h E P) 23 = rwR h E := by unfold H2; rw [hl_sL, if_neg (by decide), hl_sL, if_pos rfl]
theorem H2_24 {E : Nat → Nat → Int} {P : Nat → Int} : hl (H2 h E P) 24 = plR h P := by unfold H2; rw [hl_sL, if_pos rfl]
theorem H2_ch (s : ShX h) {E : Nat → Nat → Int} {P : Nat → Int} : ChX [23, 24] [] 0 h (H2 h E P) := by
  have c1 : ChX [23, 24] [] 0 h (sL h 23 (rwR h E)) := ChX.rowL s (kX_23 s) (by decide) (by decide)
  exact c1.trans0 (ChX.rowL c1.sh (H2_k24 s) (by decide) (by decide))
theorem H2_hi (s : ShX h) {E : Nat → Nat → Int} {P : Nat → Int} {a : Nat} : hi (H2 h E P) a = hi h a := by unfold H2; rw [hi_sL (H2_k24 s), hi_sL (kX_23 s)]
theorem H2_kI (s : ShX h) {E : Nat → Nat → Int} {P : Nat → Int} {a n : Nat} (k : kI h a n) : kI (H2 h E P) a n := (hKd_sL (H2_k24 s)).2.1 _ _ ((hKd_sL (kX_23 s)).2.1 _ _ k)
theorem H2_of (s : ShX h) : ∃ E P, h = H2 h E P := by
  refine ⟨fun r k => (hl h 23 (4 * r + k)).toInt, fun x => (hl h 24 x).toInt, ?_⟩
  have e1 : rwR h (fun r k => (hl h 23 (4 * r + k)).toInt) = hl h 23 := by
    funext x
    unfold rwR
    split
    · show lZ ((hl h 23 (4 * (x / 4) + x % 4)).toInt) = _
      rw [show 4 * (x / 4) + x % 4 = x by omega, lZ_of]
    · rfl
  have e2 : plR h (fun x => (hl h 24 x).toInt) = hl h 24 := by
    funext x
    unfold plR
    split
    · exact lZ_of _
    · rfl
  unfold H2
  rw [e1, e2, sL_id (kX_23 s), sL_id (kX_24 s)]
theorem H2_r23 (s : ShX h) {E : Nat → Nat → Int} {P : Nat → Int} {r k : Nat} (hr : r < 4) (hk : k < 4) : qlald (H2 h E P) 23 (iN (r * 4 + k)) = some (lZ (E r k)) := by
  rw [rdL (H2_k23 s) (by omega), H2_23 s]
  unfold rwR
  rw [if_pos (by omega), show (r * 4 + k) / 4 = r by omega, show (r * 4 + k) % 4 = k by omega]
theorem H2_r24 (s : ShX h) {E : Nat → Nat → Int} {P : Nat → Int} {k : Nat} (hk : k < 5) : qlald (H2 h E P) 24 (iN k) = some (lZ (P k)) := by
  rw [rdL (H2_k24' s) hk, H2_24]
  unfold plR
  rw [if_pos hk]
theorem sL_comm {h : qH} {a b n m : Nat} {f g : Nat → Int64} (hab : a ≠ b) (ka : kL h a n) (kb : kL h b m) : sL (sL h a f) b g = sL (sL h b g) a f := by
  have e1 : hlen (sL h a f) b = hlen h b := by unfold hlen; rw [at_sL, if_neg (Ne.symm hab)]
  have e2 : hlen (sL h b g) a = hlen h a := by unfold hlen; rw [at_sL, if_neg hab]
  refine Prod.ext (funext fun x => ?_) rfl
  rw [at_sL, at_sL, at_sL, at_sL, e1, e2]
  by_cases xa : x = a
  · rw [if_pos xa, if_neg (fun z => hab (xa.symm.trans z)), if_pos xa]
  · rw [if_neg xa, if_neg xa]
theorem H2_w23 (s : ShX h) {E : Nat → Nat → Int} {P : Nat → Int} {r k : Nat} {z : Int} (hr : r < 4) (hk : k < 4) : qlast (H2 h E P) 23 (iN (r * 4 + k)) (lZ z) = some (H2 h (fun a b => if a = r ∧ b = k then z else E a b) P) := by
  rw [wrL (H2_k23 s) (by omega), H2_23 s]
  congr 1
  unfold H2
  rw [← sL_comm (h := sL h 23 (rwR h E)) (by decide) ((hKd_sL (kX_23 s)).2.2.1 _ _ (kX_23 s)) (H2_k24 s), sL_sL]
  congr 2
  funext x
  show (if x = r * 4 + k then lZ z else rwR h E x) = rwR h _ x
  unfold rwR
  dsimp only
  by_cases e : x = r * 4 + k
  · rw [if_pos e, if_pos (by omega), if_pos ⟨by omega, by omega⟩]
  · rw [if_neg e]
    by_cases e2 : x < 16
    · rw [if_pos e2, if_pos e2, if_neg (fun w => e (by omega))]
    · rw [if_neg e2, if_neg e2]
theorem H2_w24 (s : ShX h) {E : Nat → Nat → Int} {P : Nat → Int} {k : Nat} {z : Int} (hk : k < 5) : qlast (H2 h E P) 24 (iN k) (lZ z) = some (H2 h E (fun b => if b = k then z else P b)) := by
  rw [wrL (H2_k24' s) hk, H2_24]
  congr 1
  unfold H2
  rw [sL_sL]
  congr 1
  funext x
  show (if x = k then lZ z else plR h P x) = plR h _ x
  unfold plR
  dsimp only
  by_cases e : x = k
  · rw [if_pos e, if_pos (by omega), if_pos e]
  · rw [if_neg e]
    by_cases e2 : x < 5
    · rw [if_pos e2, if_pos e2, if_neg e]
    · rw [if_neg e2, if_neg e2]
/-- places in a row of ints -/
def spR (h : qH) (r m : Nat) (V : Nat → Nat → Int) : Prop := ∃ n, kI h r n ∧ 4 * m ≤ n ∧ m ≤ 16 ∧ ∀ c, c < m → ∀ k, k < 4 → hi h r (c * 4 + k) = iZ (V c k) ∧ -999 ≤ V c k ∧ V c k ≤ 999
set_option maxRecDepth 100000 in
set_option maxHeartbeats 16000000 in
theorem x_rowBetween {E : Nat → Nat → Int} {P : Nat → Int} {V : Nat → Nat → Int} {r m row a b : Nat} (s : ShX h) (sp : spR h r m V) (hr : row < 4) (ha : a < m) (hb : b < m) : qMC (d + 1) 27 [.ref 19, .int (iN row), .ref r, .int (iN a), .int (iN b)] (H2 h E P) R ↔ R = (none, H2 h (updE E row (fun k => V a k - V b k)) P) := by
  obtain ⟨n, kr, mn, m16, sv⟩ := sp
  obtain ⟨F, eF⟩ : ∃ F : Nat → Nat → Nat → Int, F = fun t x k => if x = row ∧ k < t then V a k - V b k else E x k := ⟨_, rfl⟩
  have f0 : F 0 = E := by rw [eF]; funext x k; exact if_neg (fun z => absurd z.2 (Nat.not_lt_zero k))
  have f4 : F 4 = updE E row (fun k => V a k - V b k) := by rw [eF]; rfl
  have r0 : qMC (d + 1) 27 [.ref 19, .int (iN row), .ref r, .int (iN a), .int (iN b)] (H2 h E P) R ↔ qEv d 4 qk_27 3 [some (.ref 19), some (.int (iN row)), some (.ref r), some (.int (iN a)), some (.int (iN b)), some (.int (iN 0))] [] (H2 h (F 0) P) R := by
    rw [f0]
    simp (disch := first | assumption | omega) only [e27_0, e27_1, e27_5, e27_6, e27_9, e27_10, e27_13, e27_14, e27_15, e27_16, e27_18, e27_19, e27_20, e27_21, e27_22, e27_23, e27_25, e27_26, e27_27, e27_28, e27_30, e27_31, e27_32, e27_34, e27_35, e27_36, e27_37, e27_38, e27_39, e27_42, e27_45, m27, ↓reduceIte, qg_0, qg_1, qg_2, qg_3, qg_4, qg_5, qg_6, qg_7, qg_8, qg_9, qg_10, qg_11, qg_12, qg_13, not_true_eq_false, not_false_eq_true, Nat.reduceBEq, Bool.false_eq_true, ex1, ex3, ex4, exF, qfit_i, qfit_l, qfit_r, qfit_n, qfit_b0, qfit_b1, qcat_i, qcat_r, qcat_n, qcat_l, qroom_0, qroom_c, List.map_cons, List.map_nil, List.sum_cons, List.sum_nil, Nat.reduceAdd, Nat.reduceMul, Nat.reduceLT, Nat.reduceLeDiff, Nat.reduceEqDiff, Nat.reduceSub, decide_true, true_and, and_true, and_self, if_true, if_false, Option.toList_some, Option.toList_none, List.cons_append, List.nil_append, qsL, qlong, List.length_cons, List.length_nil, iN_L, exI, iN_add, iN_mul, iN_le, iN_lt, iN_eq, Nat.le_refl, qfN0, qfN1, uX_16, vX_16, uX_19, vX_19, uX_27, vX_27, uX_30, vX_30, uX_39, vX_39, uX_41, vX_41, uX_43, vX_43, uX_46, vX_46, uX_50, vX_50, uX_53, vX_53]
  rw [r0, ← f4]
  refine Iff.trans (loop_up (n := 4) (L := fun t => [some (.ref 19), some (.int (iN row)), some (.ref r), some (.int (iN a)), some (.int (iN b)), some (.int (iN t))]) (H := fun t => H2 h (F t) P) ?_) ?_
  · intro t ht
    try dsimp only
    have sF : ShX (H2 h (F t) P) := (H2_ch s).sh
    have va := sv a ha t ht
    have vb := sv b hb t ht
    have ra : qiald (H2 h (F t) P) r (iN (a * 4 + t)) = some (iZ (V a t)) := by rw [rdI (H2_kI s kr) (by omega), H2_hi s, va.1]
    have rb : qiald (H2 h (F t) P) r (iN (b * 4 + t)) = some (iZ (V b t)) := by rw [rdI (H2_kI s kr) (by omega), H2_hi s, vb.1]
    have lg : (iZ (V a t - V b t)).toInt64 = lZ (V a t - V b t) := iZ_long (by unfold iB; omega)
    have wr : qlast (H2 h (F t) P) 23 (iN (row * 4 + t)) (lZ (V a t - V b t)) = some (H2 h (F (t + 1)) P) := by
      rw [H2_w23 s hr ht]
      congr 2
      rw [eF]
      funext x k
      try dsimp only
      by_cases e : x = row ∧ k = t
      · rw [if_pos e, if_pos ⟨e.1, by omega⟩, e.2]
      · rw [if_neg e]
        by_cases e2 : x = row ∧ k < t
        · rw [if_pos e2, if_pos ⟨e2.1, by omega⟩]
        · rw [if_neg e2, if_neg (fun z => by
            rcases Nat.lt_or_ge k t with y | y
            · exact e2 ⟨z.1, y⟩
            · exact e ⟨z.1, by omega⟩)]
    rw [e27_3]
    simp (disch := first | assumption | omega) only [e27_0, e27_1, e27_5, e27_6, e27_9, e27_10, e27_13, e27_14, e27_15, e27_16, e27_18, e27_19, e27_20, e27_21, e27_22, e27_23, e27_25, e27_26, e27_27, e27_28, e27_30, e27_31, e27_32, e27_34, e27_35, e27_36, e27_37, e27_38, e27_39, e27_42, e27_45, m27, ↓reduceIte, qg_0, qg_1, qg_2, qg_3, qg_4, qg_5, qg_6, qg_7, qg_8, qg_9, qg_10, qg_11, qg_12, qg_13, not_true_eq_false, not_false_eq_true, Nat.reduceBEq, Bool.false_eq_true, ex1, ex3, ex4, exF, qfit_i, qfit_l, qfit_r, qfit_n, qfit_b0, qfit_b1, qcat_i, qcat_r, qcat_n, qcat_l, qroom_0, qroom_c, List.map_cons, List.map_nil, List.sum_cons, List.sum_nil, Nat.reduceAdd, Nat.reduceMul, Nat.reduceLT, Nat.reduceLeDiff, Nat.reduceEqDiff, Nat.reduceSub, decide_true, true_and, and_true, and_self, if_true, if_false, Option.toList_some, Option.toList_none, List.cons_append, List.nil_append, qsL, qlong, List.length_cons, List.length_nil, iN_L, exI, iN_add, iN_mul, iN_le, iN_lt, iN_eq, Nat.le_refl, qfN0, qfN1, uX_16, vX_16, uX_19, vX_19, uX_27, vX_27, uX_30, vX_30, uX_39, vX_39, uX_41, vX_41, uX_43, vX_43, uX_46, vX_46, uX_50, vX_50, uX_53, vX_53, show ¬ 4 ≤ t by omega, gX_19_7, ra, rb, iZ_sub, lg, wr]
  · try dsimp only
    rw [e27_3]
    simp (disch := first | assumption | omega) only [e27_0, e27_1, e27_5, e27_6, e27_9, e27_10, e27_13, e27_14, e27_15, e27_16, e27_18, e27_19, e27_20, e27_21, e27_22, e27_23, e27_25, e27_26, e27_27, e27_28, e27_30, e27_31, e27_32, e27_34, e27_35, e27_36, e27_37, e27_38, e27_39, e27_42, e27_45, m27, ↓reduceIte, qg_0, qg_1, qg_2, qg_3, qg_4, qg_5, qg_6, qg_7, qg_8, qg_9, qg_10, qg_11, qg_12, qg_13, not_true_eq_false, not_false_eq_true, Nat.reduceBEq, Bool.false_eq_true, ex1, ex3, ex4, exF, qfit_i, qfit_l, qfit_r, qfit_n, qfit_b0, qfit_b1, qcat_i, qcat_r, qcat_n, qcat_l, qroom_0, qroom_c, List.map_cons, List.map_nil, List.sum_cons, List.sum_nil, Nat.reduceAdd, Nat.reduceMul, Nat.reduceLT, Nat.reduceLeDiff, Nat.reduceEqDiff, Nat.reduceSub, decide_true, true_and, and_true, and_self, if_true, if_false, Option.toList_some, Option.toList_none, List.cons_append, List.nil_append, qsL, qlong, List.length_cons, List.length_nil, iN_L, exI, iN_add, iN_mul, iN_le, iN_lt, iN_eq, Nat.le_refl, qfN0, qfN1, uX_16, vX_16, uX_19, vX_19, uX_27, vX_27, uX_30, vX_30, uX_39, vX_39, uX_41, vX_41, uX_43, vX_43, uX_46, vX_46, uX_50, vX_50, uX_53, vX_53]
set_option maxRecDepth 100000 in
set_option maxHeartbeats 16000000 in
theorem x_rowOfUnit {E : Nat → Nat → Int} {P : Nat → Int} {row u : Nat} (s : ShX h) (hr : row < 4) (hu : u < 100) : qMC (d + 1) 28 [.ref 19, .int (iN row), .int (iN u)] (H2 h E P) R ↔ R = (none, H2 h (updE E row (fun k => if k = u then 1 else 0)) P) := by
  obtain ⟨F, eF⟩ : ∃ F : Nat → Nat → Nat → Int, F = fun t x k => if x = row ∧ k < t then (if k = u then 1 else 0) else E x k := ⟨_, rfl⟩
  have f0 : F 0 = E := by rw [eF]; funext x k; exact if_neg (fun z => absurd z.2 (Nat.not_lt_zero k))
  have f4 : F 4 = updE E row (fun k => if k = u then 1 else 0) := by rw [eF]; rfl
  have r0 : qMC (d + 1) 28 [.ref 19, .int (iN row), .int (iN u)] (H2 h E P) R ↔ qEv d 4 qk_28 2 [some (.ref 19), some (.int (iN row)), some (.int (iN u)), some (.int (iN 0))] [] (H2 h (F 0) P) R := by
    rw [f0]
    simp (disch := first | assumption | omega) only [e28_0, e28_1, e28_3, e28_4, e28_7, e28_8, e28_11, e28_12, e28_13, e28_14, e28_15, e28_16, e28_17, e28_18, e28_21, e28_22, e28_25, e28_26, e28_27, e28_30, e28_33, m28, ↓reduceIte, qg_0, qg_1, qg_2, qg_3, qg_4, qg_5, qg_6, qg_7, qg_8, qg_9, qg_10, qg_11, qg_12, qg_13, not_true_eq_false, not_false_eq_true, Nat.reduceBEq, Bool.false_eq_true, ex1, ex3, ex4, exF, qfit_i, qfit_l, qfit_r, qfit_n, qfit_b0, qfit_b1, qcat_i, qcat_r, qcat_n, qcat_l, qroom_0, qroom_c, List.map_cons, List.map_nil, List.sum_cons, List.sum_nil, Nat.reduceAdd, Nat.reduceMul, Nat.reduceLT, Nat.reduceLeDiff, Nat.reduceEqDiff, Nat.reduceSub, decide_true, true_and, and_true, and_self, if_true, if_false, Option.toList_some, Option.toList_none, List.cons_append, List.nil_append, qsL, qlong, List.length_cons, List.length_nil, iN_L, exI, iN_add, iN_mul, iN_le, iN_lt, iN_eq, Nat.le_refl, qfN0, qfN1, uX_16, vX_16, uX_19, vX_19, uX_27, vX_27, uX_30, vX_30, uX_39, vX_39, uX_41, vX_41, uX_43, vX_43, uX_46, vX_46, uX_50, vX_50, uX_53, vX_53]
  rw [r0, ← f4]
  refine Iff.trans (loop_up (n := 4) (L := fun t => [some (.ref 19), some (.int (iN row)), some (.int (iN u)), some (.int (iN t))]) (H := fun t => H2 h (F t) P) ?_) ?_
  · intro t ht
    try dsimp only
    have sF : ShX (H2 h (F t) P) := (H2_ch s).sh
    have wr : ∀ z, z = (if t = u then 1 else 0 : Int) → qlast (H2 h (F t) P) 23 (iN (row * 4 + t)) (lZ z) = some (H2 h (F (t + 1)) P) := by
      intro z hz
      rw [H2_w23 s hr ht]
      congr 2
      rw [eF]
      funext x k
      try dsimp only
      by_cases e : x = row ∧ k = t
      · rw [if_pos e, if_pos (show x = row ∧ k < t + 1 from ⟨e.1, by omega⟩), e.2, hz]
      · rw [if_neg e]
        by_cases e2 : x = row ∧ k < t
        · rw [if_pos e2, if_pos (show x = row ∧ k < t + 1 from ⟨e2.1, by omega⟩)]
        · rw [if_neg e2, if_neg (show ¬ (x = row ∧ k < t + 1) from fun z => by
            rcases Nat.lt_or_ge k t with y | y
            · exact e2 ⟨z.1, y⟩
            · exact e ⟨z.1, by omega⟩)]
    rw [e28_2]
    by_cases e : t = u
    · have w1 : qlast (H2 h (F t) P) 23 (iN (row * 4 + t)) 1 = some (H2 h (F (t + 1)) P) := wr 1 (if_pos e).symm
      simp (disch := first | assumption | omega) only [e28_0, e28_1, e28_3, e28_4, e28_7, e28_8, e28_11, e28_12, e28_13, e28_14, e28_15, e28_16, e28_17, e28_18, e28_21, e28_22, e28_25, e28_26, e28_27, e28_30, e28_33, m28, ↓reduceIte, qg_0, qg_1, qg_2, qg_3, qg_4, qg_5, qg_6, qg_7, qg_8, qg_9, qg_10, qg_11, qg_12, qg_13, not_true_eq_false, not_false_eq_true, Nat.reduceBEq, Bool.false_eq_true, ex1, ex3, ex4, exF, qfit_i, qfit_l, qfit_r, qfit_n, qfit_b0, qfit_b1, qcat_i, qcat_r, qcat_n, qcat_l, qroom_0, qroom_c, List.map_cons, List.map_nil, List.sum_cons, List.sum_nil, Nat.reduceAdd, Nat.reduceMul, Nat.reduceLT, Nat.reduceLeDiff, Nat.reduceEqDiff, Nat.reduceSub, decide_true, true_and, and_true, and_self, if_true, if_false, Option.toList_some, Option.toList_none, List.cons_append, List.nil_append, qsL, qlong, List.length_cons, List.length_nil, iN_L, exI, iN_add, iN_mul, iN_le, iN_lt, iN_eq, Nat.le_refl, qfN0, qfN1, uX_16, vX_16, uX_19, vX_19, uX_27, vX_27, uX_30, vX_30, uX_39, vX_39, uX_41, vX_41, uX_43, vX_43, uX_46, vX_46, uX_50, vX_50, uX_53, vX_53, show ¬ 4 ≤ t by omega, gX_19_7, eq_true e, w1]
    · have w1 : qlast (H2 h (F t) P) 23 (iN (row * 4 + t)) 0 = some (H2 h (F (t + 1)) P) := wr 0 (if_neg e).symm
      simp (disch := first | assumption | omega) only [e28_0, e28_1, e28_3, e28_4, e28_7, e28_8, e28_11, e28_12, e28_13, e28_14, e28_15, e28_16, e28_17, e28_18, e28_21, e28_22, e28_25, e28_26, e28_27, e28_30, e28_33, m28, ↓reduceIte, qg_0, qg_1, qg_2, qg_3, qg_4, qg_5, qg_6, qg_7, qg_8, qg_9, qg_10, qg_11, qg_12, qg_13, not_true_eq_false, not_false_eq_true, Nat.reduceBEq, Bool.false_eq_true, ex1, ex3, ex4, exF, qfit_i, qfit_l, qfit_r, qfit_n, qfit_b0, qfit_b1, qcat_i, qcat_r, qcat_n, qcat_l, qroom_0, qroom_c, List.map_cons, List.map_nil, List.sum_cons, List.sum_nil, Nat.reduceAdd, Nat.reduceMul, Nat.reduceLT, Nat.reduceLeDiff, Nat.reduceEqDiff, Nat.reduceSub, decide_true, true_and, and_true, and_self, if_true, if_false, Option.toList_some, Option.toList_none, List.cons_append, List.nil_append, qsL, qlong, List.length_cons, List.length_nil, iN_L, exI, iN_add, iN_mul, iN_le, iN_lt, iN_eq, Nat.le_refl, qfN0, qfN1, uX_16, vX_16, uX_19, vX_19, uX_27, vX_27, uX_30, vX_30, uX_39, vX_39, uX_41, vX_41, uX_43, vX_43, uX_46, vX_46, uX_50, vX_50, uX_53, vX_53, show ¬ 4 ≤ t by omega, gX_19_7, e, w1]
  · try dsimp only
    rw [e28_2]
    simp (disch := first | assumption | omega) only [e28_0, e28_1, e28_3, e28_4, e28_7, e28_8, e28_11, e28_12, e28_13, e28_14, e28_15, e28_16, e28_17, e28_18, e28_21, e28_22, e28_25, e28_26, e28_27, e28_30, e28_33, m28, ↓reduceIte, qg_0, qg_1, qg_2, qg_3, qg_4, qg_5, qg_6, qg_7, qg_8, qg_9, qg_10, qg_11, qg_12, qg_13, not_true_eq_false, not_false_eq_true, Nat.reduceBEq, Bool.false_eq_true, ex1, ex3, ex4, exF, qfit_i, qfit_l, qfit_r, qfit_n, qfit_b0, qfit_b1, qcat_i, qcat_r, qcat_n, qcat_l, qroom_0, qroom_c, List.map_cons, List.map_nil, List.sum_cons, List.sum_nil, Nat.reduceAdd, Nat.reduceMul, Nat.reduceLT, Nat.reduceLeDiff, Nat.reduceEqDiff, Nat.reduceSub, decide_true, true_and, and_true, and_self, if_true, if_false, Option.toList_some, Option.toList_none, List.cons_append, List.nil_append, qsL, qlong, List.length_cons, List.length_nil, iN_L, exI, iN_add, iN_mul, iN_le, iN_lt, iN_eq, Nat.le_refl, qfN0, qfN1, uX_16, vX_16, uX_19, vX_19, uX_27, vX_27, uX_30, vX_30, uX_39, vX_39, uX_41, vX_41, uX_43, vX_43, uX_46, vX_46, uX_50, vX_50, uX_53, vX_53]
end XROWS

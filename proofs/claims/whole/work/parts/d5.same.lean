/-! ===== THE REFERENCE: takeOne, takeTwo, turnsOf, same, inside ===== -/
section SAME
variable {d : Nat} {h : qH} {bs : List bdy}
def flR (o f : Nat → Int32) (k t : Nat) : Int32 := if t < k then f t else o t
theorem flR_0 {o f : Nat → Int32} : flR o f 0 = o := funext fun t => if_neg (Nat.not_lt_zero t)
theorem flR_s {o f : Nat → Int32} {k : Nat} {x : Int32} (hx : x = f k) : upd (flR o f k) k x = flR o f (k + 1) := by
  funext t
  rw [upd_at]
  unfold flR
  by_cases e : t = k
  · subst e; rw [if_pos rfl, if_pos (by omega), hx]
  · rw [if_neg e]
    by_cases w : t < k
    · rw [if_pos w, if_pos (by omega)]
    · rw [if_neg w, if_neg (by omega)]
theorem flR_at {o f : Nat → Int32} {k t : Nat} (ht : t < k) : flR o f k t = f t := if_pos ht
theorem pickN_nodup {p : Nat → Bool} : ∀ n, (pickN p n).Nodup
  | 0 => List.nodup_nil
  | n + 1 => by
    have ih := pickN_nodup (p := p) n
    unfold pickN
    by_cases e : p n = true
    · rw [if_pos e, List.nodup_append]
      refine ⟨ih, List.nodup_cons.mpr ⟨List.not_mem_nil, List.nodup_nil⟩, fun a ha b hb => ?_⟩
      have h1 := (pickN_mem.mp ha).1
      rw [List.mem_singleton] at hb
      omega
    · rw [if_neg e]; exact ih
theorem fct_nodup {i : Nat} : (fct bs i).Nodup := pickN_nodup _
theorem fct_bit {i x c : Nat} (B : BsM h bs) (hi' : i < bs.length) (hx : x ∈ fct bs i) (hc : x.testBit c = true) : c < (cnr bs i).length := by
  obtain ⟨m, S, G, b⟩ := B.G hi'
  obtain ⟨-, hx2⟩ := cls_mem.mp hx
  rcases hx2 with ⟨-, hf⟩ | ⟨w, -⟩
  · obtain ⟨j, hj, rfl⟩ := b.fcI.mp hf
    have := (b.bit hj).mp hc
    rw [show (cnr bs i).length = ncr (bs.getD i b0).1 (bs.getD i b0).2.1 from crn_len _ _]
    exact this.1
  · exact absurd w (Nat.lt_irrefl _)
set_option maxRecDepth 100000 in
set_option maxHeartbeats 16000000 in
theorem s_takeOne {i : Nat} (s : ShM h) (B : BsM h bs) (hi' : i < bs.length) : ∃ h', (∀ R, qMC (d + 3) 247 [.ref 55, .int (iN i)] h R ↔ R = (none, h')) ∧ Ch [75] [25, 28] h h' ∧ mi h' 25 = iN (cnr bs i).length ∧ mi h' 28 = iN (fct bs i).length ∧ ∀ t, t < (fct bs i).length → hi h' 75 t = iN ((fct bs i).getD t 0) := by
  have b24 := B.1
  have n57 := (B.corn hi').1
  have fl := fct_l B hi'
  obtain ⟨g1, e1⟩ : ∃ g1, g1 = mI h 25 (iN (cnr bs i).length) := ⟨_, rfl⟩
  obtain ⟨g2, e2⟩ : ∃ g2, g2 = mI g1 28 (iN (fct bs i).length) := ⟨_, rfl⟩
  have c1 : Ch [75] [25, 28] h g1 := by rw [e1]; exact Ch.setI s (by decide) (by decide)
  have c2 : Ch [75] [25, 28] h g2 := c1.trans (by rw [e2]; exact Ch.setI c1.sh (by decide) (by decide))
  have s1 := c1.sh
  have s2 := c2.sh
  have B1 : BsM g1 bs := B.ch c1 (by decide) (by decide)
  have k75 := kM_75 s2
  have cG : ∀ g, Ch [75] [25, 28] h (sI g2 75 g) := fun g => c2.trans (Ch.rowI s2 k75 (by decide))
  have sG : ∀ g, ShM (sI g2 75 g) := fun g => (cG g).sh
  have BG : ∀ g, BsM (sI g2 75 g) bs := fun g => B.ch (cG g) (by decide) (by decide)
  have mG : ∀ g, mi (sI g2 75 g) 28 = iN (fct bs i).length := fun g => by rw [mi_sI k75, e2, mi_mI, if_pos rfl]
  have sf : ∀ R, qMC (d + 2) 197 [.ref 55, .int (iN i)] g1 R ↔ R = (some (.int (iN (fct bs i).length)), g1) := fun R => s_facetsC s1 B1 hi'
  obtain ⟨f, ef⟩ : ∃ f : Nat → Int32, f = fun t => iN ((fct bs i).getD t 0) := ⟨_, rfl⟩
  have efk : ∀ t, f t = iN ((fct bs i).getD t 0) := fun t => by rw [ef]
  have H0 : sI g2 75 (flR (hi g2 75) f 0) = g2 := by rw [flR_0, sI_id k75]
  refine ⟨sI g2 75 (flR (hi g2 75) f (fct bs i).length), fun R => ?_, cG _, ?_, mG _, fun t ht => ?_⟩
  · have r0 : qMC (d + 3) 247 [.ref 55, .int (iN i)] h R ↔ qEv (d + 2) 4 qk_247 21 [some (.ref 55), some (.int (iN i)), some (.int (iN 0))] [] (sI g2 75 (flR (hi g2 75) f 0)) R := by
      rw [H0]
      simp (disch := first | assumption | omega) only [e247_0, e247_1, e247_2, e247_5, e247_6, e247_7, e247_10, e247_11, e247_12, e247_13, e247_16, e247_19, e247_20, e247_22, e247_23, e247_26, e247_29, e247_30, e247_33, e247_34, e247_35, e247_36, e247_37, e247_40, e247_41, e247_44, e247_47, m247, ↓reduceIte, qg_0, qg_1, qg_2, qg_3, qg_4, qg_5, qg_6, qg_7, qg_8, qg_9, qg_10, qg_11, qg_12, qg_13, not_true_eq_false, not_false_eq_true, Nat.reduceBEq, Bool.false_eq_true, ex1, ex3, ex4, exF, qfit_i, qfit_l, qfit_r, qfit_n, qfit_b0, qfit_b1, qcat_i, qcat_r, qcat_n, qcat_l, qroom_0, qroom_c, List.map_cons, List.map_nil, List.sum_cons, List.sum_nil, Nat.reduceAdd, Nat.reduceMul, Nat.reduceLT, Nat.reduceLeDiff, Nat.reduceEqDiff, Nat.reduceSub, decide_true, true_and, and_true, and_self, if_true, if_false, Option.toList_some, Option.toList_none, List.cons_append, List.nil_append, qsL, qlong, List.length_cons, List.length_nil, iN_L, vM1, vM2, exI, iN_add, iN_mul, iN_le, iN_lt, iN_eq, Nat.le_refl, qfN0, qfN1, gM_2, rM_57, n57, pM_25, ← e1, sf, pM_28, ← e2]
    rw [r0]
    refine Iff.trans (loop_up (n := (fct bs i).length) (L := fun k => [some (.ref 55), some (.int (iN i)), some (.int (iN k))]) (H := fun k => sI g2 75 (flR (hi g2 75) f k)) ?_) ?_
    · intro k hk
      try dsimp only
      obtain ⟨hk', ehk⟩ : ∃ hk', hk' = sI g2 75 (flR (hi g2 75) f k) := ⟨_, rfl⟩
      have sk := sG (flR (hi g2 75) f k)
      have mk := mG (flR (hi g2 75) f k)
      have sg : ∀ R, qMC (d + 2) 198 [.ref 55, .int (iN i), .int (iN k)] (sI g2 75 (flR (hi g2 75) f k)) R ↔ R = (some (.int (iN ((fct bs i).getD k 0))), (sI g2 75 (flR (hi g2 75) f k))) := fun R => s_facetC sk (BG _) hi' hk
      have wk : qiast (sI g2 75 (flR (hi g2 75) f k)) 75 (iN k) (iN ((fct bs i).getD k 0)) = some (sI g2 75 (flR (hi g2 75) f (k + 1))) := by
        rw [wM_75 sk (by omega), hi_sI, if_pos rfl, sI_sI, flR_s (efk k).symm]
      rw [e247_21]
      simp (disch := first | assumption | omega) only [e247_0, e247_1, e247_2, e247_5, e247_6, e247_7, e247_10, e247_11, e247_12, e247_13, e247_16, e247_19, e247_20, e247_22, e247_23, e247_26, e247_29, e247_30, e247_33, e247_34, e247_35, e247_36, e247_37, e247_40, e247_41, e247_44, e247_47, m247, ↓reduceIte, qg_0, qg_1, qg_2, qg_3, qg_4, qg_5, qg_6, qg_7, qg_8, qg_9, qg_10, qg_11, qg_12, qg_13, not_true_eq_false, not_false_eq_true, Nat.reduceBEq, Bool.false_eq_true, ex1, ex3, ex4, exF, qfit_i, qfit_l, qfit_r, qfit_n, qfit_b0, qfit_b1, qcat_i, qcat_r, qcat_n, qcat_l, qroom_0, qroom_c, List.map_cons, List.map_nil, List.sum_cons, List.sum_nil, Nat.reduceAdd, Nat.reduceMul, Nat.reduceLT, Nat.reduceLeDiff, Nat.reduceEqDiff, Nat.reduceSub, decide_true, true_and, and_true, and_self, if_true, if_false, Option.toList_some, Option.toList_none, List.cons_append, List.nil_append, qsL, qlong, List.length_cons, List.length_nil, iN_L, vM1, vM2, exI, iN_add, iN_mul, iN_le, iN_lt, iN_eq, Nat.le_refl, qfN0, qfN1, gM_28, mk, show ¬ (fct bs i).length ≤ k by omega, gM_26, sg, wk]
    · try dsimp only
      have sk := sG (flR (hi g2 75) f (fct bs i).length)
      have mk := mG (flR (hi g2 75) f (fct bs i).length)
      rw [e247_21]
      simp (disch := first | assumption | omega) only [e247_0, e247_1, e247_2, e247_5, e247_6, e247_7, e247_10, e247_11, e247_12, e247_13, e247_16, e247_19, e247_20, e247_22, e247_23, e247_26, e247_29, e247_30, e247_33, e247_34, e247_35, e247_36, e247_37, e247_40, e247_41, e247_44, e247_47, m247, ↓reduceIte, qg_0, qg_1, qg_2, qg_3, qg_4, qg_5, qg_6, qg_7, qg_8, qg_9, qg_10, qg_11, qg_12, qg_13, not_true_eq_false, not_false_eq_true, Nat.reduceBEq, Bool.false_eq_true, ex1, ex3, ex4, exF, qfit_i, qfit_l, qfit_r, qfit_n, qfit_b0, qfit_b1, qcat_i, qcat_r, qcat_n, qcat_l, qroom_0, qroom_c, List.map_cons, List.map_nil, List.sum_cons, List.sum_nil, Nat.reduceAdd, Nat.reduceMul, Nat.reduceLT, Nat.reduceLeDiff, Nat.reduceEqDiff, Nat.reduceSub, decide_true, true_and, and_true, and_self, if_true, if_false, Option.toList_some, Option.toList_none, List.cons_append, List.nil_append, qsL, qlong, List.length_cons, List.length_nil, iN_L, vM1, vM2, exI, iN_add, iN_mul, iN_le, iN_lt, iN_eq, Nat.le_refl, qfN0, qfN1, gM_28, mk]
  · rw [mi_sI k75, e2, mi_mI, if_neg (by decide), e1, mi_mI, if_pos rfl]
  · rw [hi_sI, if_pos rfl, flR_at ht, efk]
set_option maxRecDepth 100000 in
set_option maxHeartbeats 16000000 in
theorem s_takeTwo {i : Nat} (s : ShM h) (B : BsM h bs) (hi' : i < bs.length) : ∃ h', (∀ R, qMC (d + 3) 248 [.ref 55, .int (iN i)] h R ↔ R = (none, h')) ∧ Ch [76] [] h h' ∧ ∀ t, t < (fct bs i).length → hi h' 76 t = iN ((fct bs i).getD t 0) := by
  have b24 := B.1
  have fl := fct_l B hi'
  have k76 := kM_76 s
  have cG : ∀ g, Ch [76] [] h (sI h 76 g) := fun g => Ch.rowI s k76 (by decide)
  have sG : ∀ g, ShM (sI h 76 g) := fun g => (cG g).sh
  have BG : ∀ g, BsM (sI h 76 g) bs := fun g => B.ch (cG g) (by decide) (by decide)
  obtain ⟨f, ef⟩ : ∃ f : Nat → Int32, f = fun t => iN ((fct bs i).getD t 0) := ⟨_, rfl⟩
  have efk : ∀ t, f t = iN ((fct bs i).getD t 0) := fun t => by rw [ef]
  have H0 : sI h 76 (flR (hi h 76) f 0) = h := by rw [flR_0, sI_id k76]
  refine ⟨sI h 76 (flR (hi h 76) f (fct bs i).length), fun R => ?_, cG _, fun t ht => ?_⟩
  · have r0 : qMC (d + 3) 248 [.ref 55, .int (iN i)] h R ↔ qEv (d + 2) 4 qk_248 2 [some (.ref 55), some (.int (iN i)), some (.int (iN 0))] [] (sI h 76 (flR (hi h 76) f 0)) R := by
      rw [H0]
      simp (disch := first | assumption | omega) only [e248_0, e248_1, e248_3, e248_4, e248_5, e248_8, e248_11, e248_12, e248_15, e248_16, e248_17, e248_18, e248_19, e248_22, e248_23, e248_26, e248_29, m248, ↓reduceIte, qg_0, qg_1, qg_2, qg_3, qg_4, qg_5, qg_6, qg_7, qg_8, qg_9, qg_10, qg_11, qg_12, qg_13, not_true_eq_false, not_false_eq_true, Nat.reduceBEq, Bool.false_eq_true, ex1, ex3, ex4, exF, qfit_i, qfit_l, qfit_r, qfit_n, qfit_b0, qfit_b1, qcat_i, qcat_r, qcat_n, qcat_l, qroom_0, qroom_c, List.map_cons, List.map_nil, List.sum_cons, List.sum_nil, Nat.reduceAdd, Nat.reduceMul, Nat.reduceLT, Nat.reduceLeDiff, Nat.reduceEqDiff, Nat.reduceSub, decide_true, true_and, and_true, and_self, if_true, if_false, Option.toList_some, Option.toList_none, List.cons_append, List.nil_append, qsL, qlong, List.length_cons, List.length_nil, iN_L, vM1, vM2, exI, iN_add, iN_mul, iN_le, iN_lt, iN_eq, Nat.le_refl, qfN0, qfN1]
    rw [r0]
    refine Iff.trans (loop_up (n := (fct bs i).length) (L := fun k => [some (.ref 55), some (.int (iN i)), some (.int (iN k))]) (H := fun k => sI h 76 (flR (hi h 76) f k)) ?_) ?_
    · intro k hk
      try dsimp only
      have sk := sG (flR (hi h 76) f k)
      have sf : ∀ R, qMC (d + 2) 197 [.ref 55, .int (iN i)] (sI h 76 (flR (hi h 76) f k)) R ↔ R = (some (.int (iN (fct bs i).length)), (sI h 76 (flR (hi h 76) f k))) := fun R => s_facetsC sk (BG _) hi'
      have sg : ∀ R, qMC (d + 2) 198 [.ref 55, .int (iN i), .int (iN k)] (sI h 76 (flR (hi h 76) f k)) R ↔ R = (some (.int (iN ((fct bs i).getD k 0))), (sI h 76 (flR (hi h 76) f k))) := fun R => s_facetC sk (BG _) hi' hk
      have wk : qiast (sI h 76 (flR (hi h 76) f k)) 76 (iN k) (iN ((fct bs i).getD k 0)) = some (sI h 76 (flR (hi h 76) f (k + 1))) := by
        rw [wM_76 sk (by omega), hi_sI, if_pos rfl, sI_sI, flR_s (efk k).symm]
      rw [e248_2]
      simp (disch := first | assumption | omega) only [e248_0, e248_1, e248_3, e248_4, e248_5, e248_8, e248_11, e248_12, e248_15, e248_16, e248_17, e248_18, e248_19, e248_22, e248_23, e248_26, e248_29, m248, ↓reduceIte, qg_0, qg_1, qg_2, qg_3, qg_4, qg_5, qg_6, qg_7, qg_8, qg_9, qg_10, qg_11, qg_12, qg_13, not_true_eq_false, not_false_eq_true, Nat.reduceBEq, Bool.false_eq_true, ex1, ex3, ex4, exF, qfit_i, qfit_l, qfit_r, qfit_n, qfit_b0, qfit_b1, qcat_i, qcat_r, qcat_n, qcat_l, qroom_0, qroom_c, List.map_cons, List.map_nil, List.sum_cons, List.sum_nil, Nat.reduceAdd, Nat.reduceMul, Nat.reduceLT, Nat.reduceLeDiff, Nat.reduceEqDiff, Nat.reduceSub, decide_true, true_and, and_true, and_self, if_true, if_false, Option.toList_some, Option.toList_none, List.cons_append, List.nil_append, qsL, qlong, List.length_cons, List.length_nil, iN_L, vM1, vM2, exI, iN_add, iN_mul, iN_le, iN_lt, iN_eq, Nat.le_refl, qfN0, qfN1, sf, show ¬ (fct bs i).length ≤ k by omega, gM_27, sg, wk]
    · try dsimp only
      have sk := sG (flR (hi h 76) f (fct bs i).length)
      have sf : ∀ R, qMC (d + 2) 197 [.ref 55, .int (iN i)] (sI h 76 (flR (hi h 76) f (fct bs i).length)) R ↔ R = (some (.int (iN (fct bs i).length)), (sI h 76 (flR (hi h 76) f (fct bs i).length))) := fun R => s_facetsC sk (BG _) hi'
      rw [e248_2]
      simp (disch := first | assumption | omega) only [e248_0, e248_1, e248_3, e248_4, e248_5, e248_8, e248_11, e248_12, e248_15, e248_16, e248_17, e248_18, e248_19, e248_22, e248_23, e248_26, e248_29, m248, ↓reduceIte, qg_0, qg_1, qg_2, qg_3, qg_4, qg_5, qg_6, qg_7, qg_8, qg_9, qg_10, qg_11, qg_12, qg_13, not_true_eq_false, not_false_eq_true, Nat.reduceBEq, Bool.false_eq_true, ex1, ex3, ex4, exF, qfit_i, qfit_l, qfit_r, qfit_n, qfit_b0, qfit_b1, qcat_i, qcat_r, qcat_n, qcat_l, qroom_0, qroom_c, List.map_cons, List.map_nil, List.sum_cons, List.sum_nil, Nat.reduceAdd, Nat.reduceMul, Nat.reduceLT, Nat.reduceLeDiff, Nat.reduceEqDiff, Nat.reduceSub, decide_true, true_and, and_true, and_self, if_true, if_false, Option.toList_some, Option.toList_none, List.cons_append, List.nil_append, qsL, qlong, List.length_cons, List.length_nil, iN_L, vM1, vM2, exI, iN_add, iN_mul, iN_le, iN_lt, iN_eq, Nat.le_refl, qfN0, qfN1, sf]
  · rw [hi_sI, if_pos rfl, flR_at ht, efk]
/-- the two rows of facets -/
theorem mtv_of {i j : Nat} {h1 h2 : qH} {Bl : List Nat} {X J : List Nat} (B : BsM h bs) (hi' : i < bs.length) (e25 : mi h1 25 = iN (cnr bs i).length) (e28 : mi h1 28 = iN (fct bs i).length) (e75 : ∀ t, t < (fct bs i).length → hi h1 75 t = iN ((fct bs i).getD t 0)) (c : Ch X J h1 h2) (h75 : 75 ∉ X) (h3 : 25 ∉ J) (h4 : 28 ∉ J) (hl : Bl.length = (fct bs i).length) (hB : ∀ t, t < Bl.length → hi h2 76 t = iN (Bl.getD t 0) ∧ Bl.getD t 0 < 65536) : MtV h2 (cnr bs i).length (fct bs i) Bl :=
  ⟨⟨(B.corn hi').2.1, fct_l B hi', hl⟩, (c.mi h3).trans e25, (c.mi h4).trans e28, fun t ht => ⟨by rw [c.hi h75 (by decide)]; exact e75 t ht, fct_b B hi' ht⟩, fun t ht => hB t (by omega)⟩
theorem oka_of {i : Nat} {Bl : List Nat} (B : BsM h bs) (hi' : i < bs.length) (hl : Bl.length = (fct bs i).length) : okAB (cnr bs i).length (fct bs i) Bl := ⟨fun x hx c hc => fct_bit B hi' hx hc, fct_nodup, hl⟩
/-- how often a body turns into itself -/
noncomputable def trnN (bs : List bdy) (i : Nat) : Nat := rnT (cnr bs i).length (fct bs i) (fct bs i)
noncomputable def trnR (bs : List bdy) (i : Nat) : Int32 := iN (if trnN bs i < 100000 then trnN bs i else 100000)
set_option maxRecDepth 100000 in
set_option maxHeartbeats 16000000 in
theorem s_turnsOf {i : Nat} (s : ShM h) (B : BsM h bs) (hi' : i < bs.length) : ∃ h', (∀ R, qMC (d + 4) 249 [.ref 55, .int (iN i)] h R ↔ R = (some (.int (trnR bs i)), h')) ∧ Ch [75, 76, 77, 78, 79] [25, 28] h h' := by
  obtain ⟨h1, r1, c1, e25, e28, e75⟩ := s_takeOne (d := d) s B hi'
  have s1 := c1.sh
  have B1 : BsM h1 bs := B.ch c1 (by decide) (by decide)
  obtain ⟨h2, r2, c2, e76⟩ := s_takeTwo (d := d) s1 B1 hi'
  have s2 := c2.sh
  have v := mtv_of (j := i) B hi' e25 e28 e75 c2 (by decide) (by decide) (by decide) rfl (fun t ht => ⟨e76 t ht, fct_b B hi' ht⟩)
  obtain ⟨h3, r3, c3⟩ := s_renamings (d := d) (most := 100000) s2 v (oka_of B hi' rfl) (by have := B.nc hi'; omega) (by decide) (by decide)
  refine ⟨h3, fun R => ?_, ((c1.mono (by decide) (by decide)).trans (c2.mono (by decide) (by decide))).trans (c3.mono (by decide) (by decide))⟩
  simp (disch := first | assumption | omega) only [e249_0, e249_1, e249_2, e249_5, e249_6, e249_7, e249_10, e249_11, e249_14, e249_17, m249, ↓reduceIte, qg_0, qg_1, qg_2, qg_3, qg_4, qg_5, qg_6, qg_7, qg_8, qg_9, qg_10, qg_11, qg_12, qg_13, not_true_eq_false, not_false_eq_true, Nat.reduceBEq, Bool.false_eq_true, ex1, ex3, ex4, exF, qfit_i, qfit_l, qfit_r, qfit_n, qfit_b0, qfit_b1, qcat_i, qcat_r, qcat_n, qcat_l, qroom_0, qroom_c, List.map_cons, List.map_nil, List.sum_cons, List.sum_nil, Nat.reduceAdd, Nat.reduceMul, Nat.reduceLT, Nat.reduceLeDiff, Nat.reduceEqDiff, Nat.reduceSub, decide_true, true_and, and_true, and_self, if_true, if_false, Option.toList_some, Option.toList_none, List.cons_append, List.nil_append, qsL, qlong, List.length_cons, List.length_nil, iN_L, vM1, vM2, exI, iN_add, iN_mul, iN_le, iN_lt, iN_eq, Nat.le_refl, qfN0, qfN1, r1, r2, r3]
  exact Iff.rfl
/-- one body goes over into another: the answer -/
def fitI (n : Nat) (A B : List Nat) : Int32 := if 0 < rnT n A B then 1 else 0
theorem fit1 {n : Nat} {A B : List Nat} : iN (if rnT n A B < 1 then rnT n A B else 1) = fitI n A B := by
  unfold fitI
  by_cases e : 0 < rnT n A B
  · rw [if_pos e, if_neg (by omega)]; rfl
  · rw [if_neg e, if_pos (by omega), show rnT n A B = 0 by omega]; rfl
noncomputable def samI (bs : List bdy) (i j : Nat) : Int32 := if dmn bs i = dmn bs j ∧ (cnr bs i).length = (cnr bs j).length ∧ (fct bs i).length = (fct bs j).length then fitI (cnr bs i).length (fct bs i) (fct bs j) else 0
def isB (bs : List bdy) (x : Int32) : Prop := ∃ i, i < bs.length ∧ x = iN i
/-- what is asked of two bodies -/
noncomputable def twoR (bs : List bdy) (f : Nat → Nat → Int32) (x y : Int32) : Int32 := @dite _ (isB bs x ∧ isB bs y) (Classical.propDecidable _) (fun h => f (Classical.choose h.1) (Classical.choose h.2)) (fun _ => -1001)
theorem isB_nat {i k : Nat} (h16 : bs.length ≤ 24) (hi' : i < bs.length) (h : k < bs.length ∧ iN i = iN k) : k = i := (iN_inj (by omega) (by omega) h.2).symm
theorem twoR_at {f : Nat → Nat → Int32} {i j : Nat} (h16 : bs.length ≤ 24) (hi' : i < bs.length) (hj' : j < bs.length) : twoR bs f (iN i) (iN j) = f i j := by
  have hx : isB bs (iN i) ∧ isB bs (iN j) := ⟨⟨i, hi', rfl⟩, ⟨j, hj', rfl⟩⟩
  unfold twoR
  rw [dif_pos hx, isB_nat h16 hi' (Classical.choose_spec hx.1), isB_nat h16 hj' (Classical.choose_spec hx.2)]
theorem twoR_no {f : Nat → Nat → Int32} {x y : Int32} (h : ¬ (isB bs x ∧ isB bs y)) : twoR bs f x y = -1001 := dif_neg h
set_option maxRecDepth 100000 in
set_option maxHeartbeats 16000000 in
theorem s_same {x y : Int32} (s : ShM h) (B : BsM h bs) : ∃ h', (∀ R, qMC (d + 4) 250 [.ref 55, .int x, .int y] h R ↔ R = (some (.int (twoR bs (samI bs) x y)), h')) ∧ Ch [75, 76, 77, 78, 79] [25, 28] h h' := by
  have b24 := B.1
  have n1 : ¬ (1 : Int32) = iN 0 := by decide
  by_cases hx : isB bs x
  · by_cases hy : isB bs y
    · have bx := fun R => s_isBody1 (d := d + 1) (R := R) s B hx
      have by' := fun R => s_isBody1 (d := d + 1) (R := R) s B hy
      obtain ⟨i, hi', rfl⟩ := hx
      obtain ⟨j, hj', rfl⟩ := hy
      rw [twoR_at B.1 hi' hj']
      have ni := (B.corn hi').1
      have nj := (B.corn hj').1
      have li := (B.corn hi').2.1
      have lj := (B.corn hj').2.1
      obtain ⟨di, di2, di4⟩ := B.dim hi'
      obtain ⟨dj, dj2, dj4⟩ := B.dim hj'
      have fi := fct_l B hi'
      have fj := fct_l B hj'
      have si : ∀ R, qMC (d + 3) 197 [.ref 55, .int (iN i)] h R ↔ R = (some (.int (iN (fct bs i).length)), h) := fun R => s_facetsC s B hi'
      have sj : ∀ R, qMC (d + 3) 197 [.ref 55, .int (iN j)] h R ↔ R = (some (.int (iN (fct bs j).length)), h) := fun R => s_facetsC s B hj'
      by_cases g1 : dmn bs i = dmn bs j
      · by_cases g2 : (cnr bs i).length = (cnr bs j).length
        · by_cases g3 : (fct bs i).length = (fct bs j).length
          · obtain ⟨h1, r1, c1, e25, e28, e75⟩ := s_takeOne (d := d) s B hi'
            have s1 := c1.sh
            have B1 : BsM h1 bs := B.ch c1 (by decide) (by decide)
            obtain ⟨h2, r2, c2, e76⟩ := s_takeTwo (d := d) s1 B1 hj'
            have s2 := c2.sh
            have v := mtv_of (j := i) B hi' e25 e28 e75 c2 (by decide) (by decide) (by decide) g3.symm (fun t ht => ⟨e76 t ht, fct_b B hj' ht⟩)
            obtain ⟨h3, r3, c3⟩ := s_renamings (d := d) (most := 1) s2 v (oka_of B hi' g3.symm) (by have := B.nc hi'; omega) (by decide) (by decide)
            refine ⟨h3, fun R => ?_, ((c1.mono (by decide) (by decide)).trans (c2.mono (by decide) (by decide))).trans (c3.mono (by decide) (by decide))⟩
            unfold samI
            rw [if_pos ⟨g1, g2, g3⟩, ← fit1]
            have q1 : hi h 56 i = hi h 56 j := by rw [di, dj, g1]
            have q2 : hi h 57 i = hi h 57 j := by rw [ni, nj, g2]
            simp (disch := first | assumption | omega) only [e250_0, e250_1, e250_2, e250_5, e250_8, e250_9, e250_10, e250_13, e250_16, e250_19, e250_20, e250_21, e250_24, e250_25, e250_26, e250_27, e250_30, e250_31, e250_32, e250_35, e250_36, e250_39, e250_40, e250_41, e250_42, e250_45, e250_46, e250_47, e250_50, e250_51, e250_52, e250_55, e250_56, e250_57, e250_60, e250_63, e250_64, e250_65, e250_66, e250_67, e250_70, e250_71, e250_72, e250_75, e250_76, e250_77, e250_80, m250, ↓reduceIte, qg_0, qg_1, qg_2, qg_3, qg_4, qg_5, qg_6, qg_7, qg_8, qg_9, qg_10, qg_11, qg_12, qg_13, not_true_eq_false, not_false_eq_true, Nat.reduceBEq, Bool.false_eq_true, ex1, ex3, ex4, exF, qfit_i, qfit_l, qfit_r, qfit_n, qfit_b0, qfit_b1, qcat_i, qcat_r, qcat_n, qcat_l, qroom_0, qroom_c, List.map_cons, List.map_nil, List.sum_cons, List.sum_nil, Nat.reduceAdd, Nat.reduceMul, Nat.reduceLT, Nat.reduceLeDiff, Nat.reduceEqDiff, Nat.reduceSub, decide_true, true_and, and_true, and_self, if_true, if_false, Option.toList_some, Option.toList_none, List.cons_append, List.nil_append, qsL, qlong, List.length_cons, List.length_nil, iN_L, vM1, vM2, exI, iN_add, iN_mul, iN_le, iN_lt, iN_eq, Nat.le_refl, qfN0, qfN1, bx, by', iN10, gM_1, gM_2, rM_56, rM_57, q1, q2, si, sj, g3, r1, r2, r3]
          · refine ⟨h, fun R => ?_, Ch.refl s⟩
            unfold samI
            rw [if_neg fun z => g3 z.2.2]
            have q1 : hi h 56 i = hi h 56 j := by rw [di, dj, g1]
            have q2 : hi h 57 i = hi h 57 j := by rw [ni, nj, g2]
            simp (disch := first | assumption | omega) only [e250_0, e250_1, e250_2, e250_5, e250_8, e250_9, e250_10, e250_13, e250_16, e250_19, e250_20, e250_21, e250_24, e250_25, e250_26, e250_27, e250_30, e250_31, e250_32, e250_35, e250_36, e250_39, e250_40, e250_41, e250_42, e250_45, e250_46, e250_47, e250_50, e250_51, e250_52, e250_55, e250_56, e250_57, e250_60, e250_63, e250_64, e250_65, e250_66, e250_67, e250_70, e250_71, e250_72, e250_75, e250_76, e250_77, e250_80, m250, ↓reduceIte, qg_0, qg_1, qg_2, qg_3, qg_4, qg_5, qg_6, qg_7, qg_8, qg_9, qg_10, qg_11, qg_12, qg_13, not_true_eq_false, not_false_eq_true, Nat.reduceBEq, Bool.false_eq_true, ex1, ex3, ex4, exF, qfit_i, qfit_l, qfit_r, qfit_n, qfit_b0, qfit_b1, qcat_i, qcat_r, qcat_n, qcat_l, qroom_0, qroom_c, List.map_cons, List.map_nil, List.sum_cons, List.sum_nil, Nat.reduceAdd, Nat.reduceMul, Nat.reduceLT, Nat.reduceLeDiff, Nat.reduceEqDiff, Nat.reduceSub, decide_true, true_and, and_true, and_self, if_true, if_false, Option.toList_some, Option.toList_none, List.cons_append, List.nil_append, qsL, qlong, List.length_cons, List.length_nil, iN_L, vM1, vM2, exI, iN_add, iN_mul, iN_le, iN_lt, iN_eq, Nat.le_refl, qfN0, qfN1, bx, by', iN10, gM_1, gM_2, rM_56, rM_57, q1, q2, si, sj, g3]
        · refine ⟨h, fun R => ?_, Ch.refl s⟩
          unfold samI
          rw [if_neg fun z => g2 z.2.1]
          have q1 : hi h 56 i = hi h 56 j := by rw [di, dj, g1]
          simp (disch := first | assumption | omega) only [e250_0, e250_1, e250_2, e250_5, e250_8, e250_9, e250_10, e250_13, e250_16, e250_19, e250_20, e250_21, e250_24, e250_25, e250_26, e250_27, e250_30, e250_31, e250_32, e250_35, e250_36, e250_39, e250_40, e250_41, e250_42, e250_45, e250_46, e250_47, e250_50, e250_51, e250_52, e250_55, e250_56, e250_57, e250_60, e250_63, e250_64, e250_65, e250_66, e250_67, e250_70, e250_71, e250_72, e250_75, e250_76, e250_77, e250_80, m250, ↓reduceIte, qg_0, qg_1, qg_2, qg_3, qg_4, qg_5, qg_6, qg_7, qg_8, qg_9, qg_10, qg_11, qg_12, qg_13, not_true_eq_false, not_false_eq_true, Nat.reduceBEq, Bool.false_eq_true, ex1, ex3, ex4, exF, qfit_i, qfit_l, qfit_r, qfit_n, qfit_b0, qfit_b1, qcat_i, qcat_r, qcat_n, qcat_l, qroom_0, qroom_c, List.map_cons, List.map_nil, List.sum_cons, List.sum_nil, Nat.reduceAdd, Nat.reduceMul, Nat.reduceLT, Nat.reduceLeDiff, Nat.reduceEqDiff, Nat.reduceSub, decide_true, true_and, and_true, and_self, if_true, if_false, Option.toList_some, Option.toList_none, List.cons_append, List.nil_append, qsL, qlong, List.length_cons, List.length_nil, iN_L, vM1, vM2, exI, iN_add, iN_mul, iN_le, iN_lt, iN_eq, Nat.le_refl, qfN0, qfN1, bx, by', iN10, gM_1, gM_2, rM_56, rM_57, di, dj, g1, ni, nj, g2]
      · refine ⟨h, fun R => ?_, Ch.refl s⟩
        unfold samI
        rw [if_neg fun z => g1 z.1]
        simp (disch := first | assumption | omega) only [e250_0, e250_1, e250_2, e250_5, e250_8, e250_9, e250_10, e250_13, e250_16, e250_19, e250_20, e250_21, e250_24, e250_25, e250_26, e250_27, e250_30, e250_31, e250_32, e250_35, e250_36, e250_39, e250_40, e250_41, e250_42, e250_45, e250_46, e250_47, e250_50, e250_51, e250_52, e250_55, e250_56, e250_57, e250_60, e250_63, e250_64, e250_65, e250_66, e250_67, e250_70, e250_71, e250_72, e250_75, e250_76, e250_77, e250_80, m250, ↓reduceIte, qg_0, qg_1, qg_2, qg_3, qg_4, qg_5, qg_6, qg_7, qg_8, qg_9, qg_10, qg_11, qg_12, qg_13, not_true_eq_false, not_false_eq_true, Nat.reduceBEq, Bool.false_eq_true, ex1, ex3, ex4, exF, qfit_i, qfit_l, qfit_r, qfit_n, qfit_b0, qfit_b1, qcat_i, qcat_r, qcat_n, qcat_l, qroom_0, qroom_c, List.map_cons, List.map_nil, List.sum_cons, List.sum_nil, Nat.reduceAdd, Nat.reduceMul, Nat.reduceLT, Nat.reduceLeDiff, Nat.reduceEqDiff, Nat.reduceSub, decide_true, true_and, and_true, and_self, if_true, if_false, Option.toList_some, Option.toList_none, List.cons_append, List.nil_append, qsL, qlong, List.length_cons, List.length_nil, iN_L, vM1, vM2, exI, iN_add, iN_mul, iN_le, iN_lt, iN_eq, Nat.le_refl, qfN0, qfN1, bx, by', iN10, gM_1, gM_2, rM_56, rM_57, di, dj, g1]
    · refine ⟨h, fun R => ?_, Ch.refl s⟩
      rw [twoR_no fun z => hy z.2]
      simp (disch := first | assumption | omega) only [e250_0, e250_1, e250_2, e250_5, e250_8, e250_9, e250_10, e250_13, e250_16, e250_19, e250_20, e250_21, e250_24, e250_25, e250_26, e250_27, e250_30, e250_31, e250_32, e250_35, e250_36, e250_39, e250_40, e250_41, e250_42, e250_45, e250_46, e250_47, e250_50, e250_51, e250_52, e250_55, e250_56, e250_57, e250_60, e250_63, e250_64, e250_65, e250_66, e250_67, e250_70, e250_71, e250_72, e250_75, e250_76, e250_77, e250_80, m250, ↓reduceIte, qg_0, qg_1, qg_2, qg_3, qg_4, qg_5, qg_6, qg_7, qg_8, qg_9, qg_10, qg_11, qg_12, qg_13, not_true_eq_false, not_false_eq_true, Nat.reduceBEq, Bool.false_eq_true, ex1, ex3, ex4, exF, qfit_i, qfit_l, qfit_r, qfit_n, qfit_b0, qfit_b1, qcat_i, qcat_r, qcat_n, qcat_l, qroom_0, qroom_c, List.map_cons, List.map_nil, List.sum_cons, List.sum_nil, Nat.reduceAdd, Nat.reduceMul, Nat.reduceLT, Nat.reduceLeDiff, Nat.reduceEqDiff, Nat.reduceSub, decide_true, true_and, and_true, and_self, if_true, if_false, Option.toList_some, Option.toList_none, List.cons_append, List.nil_append, qsL, qlong, List.length_cons, List.length_nil, iN_L, vM1, vM2, exI, iN_add, iN_mul, iN_le, iN_lt, iN_eq, Nat.le_refl, qfN0, qfN1, iN10, s_isBody1 (d := d + 1) s B hx, s_isBody0 (d := d + 1) s B hy]
  · refine ⟨h, fun R => ?_, Ch.refl s⟩
    rw [twoR_no fun z => hx z.1]
    simp (disch := first | assumption | omega) only [e250_0, e250_1, e250_2, e250_5, e250_8, e250_9, e250_10, e250_13, e250_16, e250_19, e250_20, e250_21, e250_24, e250_25, e250_26, e250_27, e250_30, e250_31, e250_32, e250_35, e250_36, e250_39, e250_40, e250_41, e250_42, e250_45, e250_46, e250_47, e250_50, e250_51, e250_52, e250_55, e250_56, e250_57, e250_60, e250_63, e250_64, e250_65, e250_66, e250_67, e250_70, e250_71, e250_72, e250_75, e250_76, e250_77, e250_80, m250, ↓reduceIte, qg_0, qg_1, qg_2, qg_3, qg_4, qg_5, qg_6, qg_7, qg_8, qg_9, qg_10, qg_11, qg_12, qg_13, not_true_eq_false, not_false_eq_true, Nat.reduceBEq, Bool.false_eq_true, ex1, ex3, ex4, exF, qfit_i, qfit_l, qfit_r, qfit_n, qfit_b0, qfit_b1, qcat_i, qcat_r, qcat_n, qcat_l, qroom_0, qroom_c, List.map_cons, List.map_nil, List.sum_cons, List.sum_nil, Nat.reduceAdd, Nat.reduceMul, Nat.reduceLT, Nat.reduceLeDiff, Nat.reduceEqDiff, Nat.reduceSub, decide_true, true_and, and_true, and_self, if_true, if_false, Option.toList_some, Option.toList_none, List.cons_append, List.nil_append, qsL, qlong, List.length_cons, List.length_nil, iN_L, vM1, vM2, exI, iN_add, iN_mul, iN_le, iN_lt, iN_eq, Nat.le_refl, qfN0, qfN1, s_isBody0 (d := d + 1) s B hx]
end SAME

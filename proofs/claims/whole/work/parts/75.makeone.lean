/-! ===== THE REFERENCE: makeOne ===== -/
section MO
variable {d D : Nat} {h : qH} {l : List pt4} {bs : List bdy}
/-- what a body of points told comes to: the answer and the bodies behind it -/
def newB (bs : List bdy) (l : List pt4) (D : Nat) (sc : Int32) (v : Int32) (bs' : List bdy) : Prop :=
  ((bs.length = 24 ∨ 16 < l.length) ∧ v = -1004 ∧ bs' = bs) ∨ ((bs.length < 24 ∧ l.length ≤ 16) ∧ ¬ smP l ∧ v = -1005 ∧ bs' = bs) ∨ ((bs.length < 24 ∧ l.length ≤ 16) ∧ smP l ∧ ¬ solid l D ∧ v = -1003 ∧ bs' = bs) ∨ ((bs.length < 24 ∧ l.length ≤ 16) ∧ smP l ∧ solid l D ∧ v = iN bs.length ∧ bs' = bs ++ [(l, D, sc)])
theorem in999 {z : Int} (hz : iB z) : ((-999 : Int64) ≤ (iZ z).toInt64 ∧ (iZ z).toInt64 ≤ 999) ↔ -999 ≤ z ∧ z ≤ 999 := by
  rw [iZ_long hz, show (-999 : Int64) = lZ (-999) from rfl, show (999 : Int64) = lZ 999 from rfl]
  have b1 : lB z := by unfold iB at hz; unfold lB; omega
  rw [lZ_le (by unfold lB; omega) b1, lZ_le b1 (by unfold lB; omega)]
set_option maxRecDepth 100000 in
set_option maxHeartbeats 16000000 in
theorem mo_scan (s : ShM h) (v : PtV h l) (h16 : l.length ≤ 16) (R : qRes) : (smP l → (qEv (d + 6) 0 qk_224 24 [some (.ref 55), some (.int (iN 0))] [] h R ↔ qEv (d + 6) 0 qk_224 63 [some (.ref 55), some (.int (iN (4 * l.length)))] [] h R)) ∧ (¬ smP l → (qEv (d + 6) 0 qk_224 24 [some (.ref 55), some (.int (iN 0))] [] h R ↔ R = (some (.int (-1005)), h))) := by
  have at' : ∀ p, p < 4 * l.length → hi h 63 p = iZ (lP l (p / 4) (p % 4)) ∧ iB (lP l (p / 4) (p % 4)) := fun p hp => by
    have := v.2 (p / 4) (by omega) (p % 4) (by omega)
    rw [show 4 * (p / 4) + p % 4 = p by omega] at this
    exact this
  have stp : ∀ p, p < 4 * l.length → (qEv (d + 6) 0 qk_224 24 [some (.ref 55), some (.int (iN p))] [] h R ↔ if -999 ≤ lP l (p / 4) (p % 4) ∧ lP l (p / 4) (p % 4) ≤ 999 then qEv (d + 6) 0 qk_224 24 [some (.ref 55), some (.int (iN (p + 1)))] [] h R else R = (some (.int (-1005)), h)) := by
    intro p hp
    obtain ⟨a1, a2⟩ := at' p hp
    rw [e224_24]
    by_cases hc : -999 ≤ lP l (p / 4) (p % 4) ∧ lP l (p / 4) (p % 4) ≤ 999
    · have hb : bI ((-999 : Int64) ≤ (iZ (lP l (p / 4) (p % 4))).toInt64 ∧ (iZ (lP l (p / 4) (p % 4))).toInt64 ≤ 999) = 1 := if_pos ((in999 a2).mpr hc)
      simp (disch := first | assumption | omega) only [e224_0, e224_1, e224_4, e224_6, e224_9, e224_10, e224_13, e224_15, e224_18, e224_21, e224_22, e224_23, e224_25, e224_26, e224_27, e224_30, e224_31, e224_34, e224_35, e224_38, e224_39, e224_40, e224_41, e224_44, e224_47, e224_50, e224_53, e224_56, e224_57, e224_60, e224_63, e224_64, e224_67, e224_70, e224_71, e224_72, e224_75, e224_78, e224_81, m224, ↓reduceIte, qg_0, qg_1, qg_2, qg_3, qg_4, qg_5, qg_6, qg_7, qg_8, qg_9, qg_10, qg_11, qg_12, qg_13, not_true_eq_false, not_false_eq_true, Nat.reduceBEq, Bool.false_eq_true, ex1, ex3, ex4, exF, qfit_i, qfit_l, qfit_r, qfit_n, qfit_b0, qfit_b1, qcat_i, qcat_r, qcat_n, qcat_l, qroom_0, qroom_c, List.map_cons, List.map_nil, List.sum_cons, List.sum_nil, Nat.reduceAdd, Nat.reduceMul, Nat.reduceLT, Nat.reduceLeDiff, Nat.reduceEqDiff, Nat.reduceSub, decide_true, true_and, and_true, and_self, if_true, if_false, Option.toList_some, Option.toList_none, List.cons_append, List.nil_append, qsL, qlong, List.length_cons, List.length_nil, gM_9, gM_10, v.1, iN_Lmul, iN_le, show ¬ 4 * l.length ≤ p by omega, rM_63, a1, s_in, hb, show ¬ (1 : Int32) = 0 by decide, exI, iN_addL, hc]
    · have hb : bI ((-999 : Int64) ≤ (iZ (lP l (p / 4) (p % 4))).toInt64 ∧ (iZ (lP l (p / 4) (p % 4))).toInt64 ≤ 999) = 0 := if_neg (fun z => hc ((in999 a2).mp z))
      simp (disch := first | assumption | omega) only [e224_0, e224_1, e224_4, e224_6, e224_9, e224_10, e224_13, e224_15, e224_18, e224_21, e224_22, e224_23, e224_25, e224_26, e224_27, e224_30, e224_31, e224_34, e224_35, e224_38, e224_39, e224_40, e224_41, e224_44, e224_47, e224_50, e224_53, e224_56, e224_57, e224_60, e224_63, e224_64, e224_67, e224_70, e224_71, e224_72, e224_75, e224_78, e224_81, m224, ↓reduceIte, qg_0, qg_1, qg_2, qg_3, qg_4, qg_5, qg_6, qg_7, qg_8, qg_9, qg_10, qg_11, qg_12, qg_13, not_true_eq_false, not_false_eq_true, Nat.reduceBEq, Bool.false_eq_true, ex1, ex3, ex4, exF, qfit_i, qfit_l, qfit_r, qfit_n, qfit_b0, qfit_b1, qcat_i, qcat_r, qcat_n, qcat_l, qroom_0, qroom_c, List.map_cons, List.map_nil, List.sum_cons, List.sum_nil, Nat.reduceAdd, Nat.reduceMul, Nat.reduceLT, Nat.reduceLeDiff, Nat.reduceEqDiff, Nat.reduceSub, decide_true, true_and, and_true, and_self, if_true, if_false, Option.toList_some, Option.toList_none, List.cons_append, List.nil_append, qsL, qlong, List.length_cons, List.length_nil, gM_9, gM_10, v.1, iN_Lmul, iN_le, show ¬ 4 * l.length ≤ p by omega, rM_63, a1, s_in, hb]
      rw [if_neg hc]
  have sm_iff : smP l ↔ ∀ p, p < 4 * l.length → -999 ≤ lP l (p / 4) (p % 4) ∧ lP l (p / 4) (p % 4) ≤ 999 := by
    constructor
    · intro hs p hp
      unfold lP
      rw [lP_at (by omega)]
      exact hs _ (List.getElem_mem (by omega)) _ (by omega)
    · intro hs q hq k hk
      obtain ⟨p, hp, e⟩ := List.getElem_of_mem hq
      have := hs (4 * p + k) (by omega)
      rw [show (4 * p + k) / 4 = p by omega, show (4 * p + k) % 4 = k by omega] at this
      unfold lP at this
      rw [lP_at hp, e] at this
      exact this
  constructor
  · intro hs
    refine Iff.trans (loop_up (n := 4 * l.length) (L := fun p => [some (.ref 55), some (.int (iN p))]) (H := fun _ => h) (fun p hp => ?_)) ?_
    · rw [stp p hp, if_pos (sm_iff.mp hs p hp)]
    · try dsimp only
      rw [e224_24]
      simp (disch := first | assumption | omega) only [e224_0, e224_1, e224_4, e224_6, e224_9, e224_10, e224_13, e224_15, e224_18, e224_21, e224_22, e224_23, e224_25, e224_26, e224_27, e224_30, e224_31, e224_34, e224_35, e224_38, e224_39, e224_40, e224_41, e224_44, e224_47, e224_50, e224_53, e224_56, e224_57, e224_60, e224_64, e224_67, e224_70, e224_71, e224_72, e224_75, e224_78, e224_81, m224, ↓reduceIte, qg_0, qg_1, qg_2, qg_3, qg_4, qg_5, qg_6, qg_7, qg_8, qg_9, qg_10, qg_11, qg_12, qg_13, not_true_eq_false, not_false_eq_true, Nat.reduceBEq, Bool.false_eq_true, ex1, ex3, ex4, exF, qfit_i, qfit_l, qfit_r, qfit_n, qfit_b0, qfit_b1, qcat_i, qcat_r, qcat_n, qcat_l, qroom_0, qroom_c, List.map_cons, List.map_nil, List.sum_cons, List.sum_nil, Nat.reduceAdd, Nat.reduceMul, Nat.reduceLT, Nat.reduceLeDiff, Nat.reduceEqDiff, Nat.reduceSub, decide_true, true_and, and_true, and_self, if_true, if_false, Option.toList_some, Option.toList_none, List.cons_append, List.nil_append, qsL, qlong, List.length_cons, List.length_nil, gM_9, v.1, iN_Lmul, iN_le, Nat.le_refl]
  · intro hs
    have hex : ∃ p, p < 4 * l.length ∧ ¬ (-999 ≤ lP l (p / 4) (p % 4) ∧ lP l (p / 4) (p % 4) ≤ 999) := Classical.byContradiction fun hc => hs (sm_iff.mpr fun p hp => Classical.byContradiction fun z => hc ⟨p, hp, z⟩)
    have key : ∀ (c p : Nat), p + c = 4 * l.length → (∃ q, p ≤ q ∧ q < 4 * l.length ∧ ¬ (-999 ≤ lP l (q / 4) (q % 4) ∧ lP l (q / 4) (q % 4) ≤ 999)) → (qEv (d + 6) 0 qk_224 24 [some (.ref 55), some (.int (iN p))] [] h R ↔ R = (some (.int (-1005)), h)) := by
      intro c
      induction c with
      | zero =>
        rintro p hp ⟨q, h1, h2, -⟩
        omega
      | succ c ih =>
        rintro p hp ⟨q, h1, h2, h3⟩
        rw [stp p (by omega)]
        by_cases hc : -999 ≤ lP l (p / 4) (p % 4) ∧ lP l (p / 4) (p % 4) ≤ 999
        · rw [if_pos hc]
          exact ih (p + 1) (by omega) ⟨q, by rcases Nat.lt_or_ge p q with z | z; exact z; exact absurd (show _ by rw [show q = p by omega]; exact hc) h3, h2, h3⟩
        · rw [if_neg hc]
    obtain ⟨q, h1, h2⟩ := hex
    exact key (4 * l.length) 0 (by omega) ⟨q, by omega, h1, h2⟩
set_option maxRecDepth 100000 in
set_option maxHeartbeats 16000000 in
theorem s_makeOne (gg : geo) (s : ShM h) (B : BsM h bs) (v : PtV h l) (hl : l.length ≤ 256) (nd : l.Nodup) (pj : ∀ q, q ∈ l → prj D q = q) (hD : 2 ≤ D ∧ D ≤ 4) (hd : mi h 8 = iN D) :
    ∃ v' h' bs', (∀ R, qMC (d + 7) 224 [.ref 55] h R ↔ R = (some (.int v'), h')) ∧ Ch [56, 57, 58, 59, 60, 61, 62, 64, 65, 66, 67, 68, 69] [0, 11] h h' ∧ newB bs l D 1 v' bs' ∧ BsM h' bs' := by
  have hb24 := B.1
  by_cases hf : bs.length = 24
  · refine ⟨-1004, h, bs, fun R => ?_, Ch.refl s, Or.inl ⟨Or.inl hf, rfl, rfl⟩, B⟩
    have b3 : mi h 0 = iN 24 := by rw [B.2.1, hf]
    simp (disch := first | assumption | omega) only [e224_0, e224_1, e224_4, e224_6, e224_9, e224_10, e224_13, e224_15, e224_18, e224_21, e224_22, e224_23, e224_25, e224_26, e224_27, e224_30, e224_31, e224_34, e224_35, e224_38, e224_39, e224_40, e224_41, e224_44, e224_47, e224_50, e224_53, e224_56, e224_57, e224_60, e224_63, e224_64, e224_67, e224_70, e224_71, e224_72, e224_75, e224_78, e224_81, m224, ↓reduceIte, qg_0, qg_1, qg_2, qg_3, qg_4, qg_5, qg_6, qg_7, qg_8, qg_9, qg_10, qg_11, qg_12, qg_13, not_true_eq_false, not_false_eq_true, Nat.reduceBEq, Bool.false_eq_true, ex1, ex3, ex4, exF, qfit_i, qfit_l, qfit_r, qfit_n, qfit_b0, qfit_b1, qcat_i, qcat_r, qcat_n, qcat_l, qroom_0, qroom_c, List.map_cons, List.map_nil, List.sum_cons, List.sum_nil, Nat.reduceAdd, Nat.reduceMul, Nat.reduceLT, Nat.reduceLeDiff, Nat.reduceEqDiff, Nat.reduceSub, decide_true, true_and, and_true, and_self, if_true, if_false, Option.toList_some, Option.toList_none, List.cons_append, List.nil_append, qsL, qlong, List.length_cons, List.length_nil, gM_0, b3, show (24 : Int32) = iN 24 from rfl]
  have hne : ¬ iN bs.length = iN 24 := by rw [iN_eq (by omega) (by omega)]; exact hf
  by_cases h16 : l.length ≤ 16
  · have r0 : ∀ R, qMC (d + 7) 224 [.ref 55] h R ↔ qEv (d + 6) 0 qk_224 24 [some (.ref 55), some (.int (iN 0))] [] h R := by
      intro R
      simp (disch := first | assumption | omega) only [e224_0, e224_1, e224_4, e224_6, e224_9, e224_10, e224_13, e224_15, e224_18, e224_21, e224_22, e224_23, e224_25, e224_26, e224_27, e224_30, e224_31, e224_34, e224_35, e224_38, e224_39, e224_40, e224_41, e224_44, e224_47, e224_50, e224_53, e224_56, e224_57, e224_60, e224_63, e224_64, e224_67, e224_70, e224_71, e224_72, e224_75, e224_78, e224_81, m224, ↓reduceIte, qg_0, qg_1, qg_2, qg_3, qg_4, qg_5, qg_6, qg_7, qg_8, qg_9, qg_10, qg_11, qg_12, qg_13, not_true_eq_false, not_false_eq_true, Nat.reduceBEq, Bool.false_eq_true, ex1, ex3, ex4, exF, qfit_i, qfit_l, qfit_r, qfit_n, qfit_b0, qfit_b1, qcat_i, qcat_r, qcat_n, qcat_l, qroom_0, qroom_c, List.map_cons, List.map_nil, List.sum_cons, List.sum_nil, Nat.reduceAdd, Nat.reduceMul, Nat.reduceLT, Nat.reduceLeDiff, Nat.reduceEqDiff, Nat.reduceSub, decide_true, true_and, and_true, and_self, if_true, if_false, Option.toList_some, Option.toList_none, List.cons_append, List.nil_append, qsL, qlong, List.length_cons, List.length_nil, gM_0, gM_9, B.2.1, v.1, show (24 : Int32) = iN 24 from rfl, show (16 : Int32) = iN 16 from rfl, hne, iN_le, h16]
      exact Iff.rfl
    by_cases hs : smP l
    · have ok : okP l D := ⟨hs, nd, h16, pj, hD⟩
      obtain ⟨h1, r1, c1, fin⟩ := s_finish (d := d + 1) gg s v ok hd
      have s1 := c1.sh
      have B1 : BsM h1 bs := B.ch c1 (by decide) (by decide)
      by_cases so : solid l D
      · rw [tB_t so] at r1
        obtain ⟨h2, r2, c2', m2, bm, sm⟩ := fin so bs.length 1 B.2.1 (by omega) h1 (Ch.refl s1)
        refine ⟨iN bs.length, h2, bs ++ [(l, D, 1)], fun R => ?_, (c1.mono (by decide) (by decide)).trans (c2'.mono (by decide) (by decide)), Or.inr (Or.inr (Or.inr ⟨⟨by omega, h16⟩, hs, so, rfl, rfl⟩)), B1.push (h := h) (by omega) ok so m2 bm sm⟩
        rw [r0 R, (mo_scan s v h16 R).1 hs]
        have r1' : ∀ R, qMC (d + 6) 208 [.ref 55] h R ↔ R = (some (.int (bB true)), h1) := r1
        have r2' : ∀ R, qMC (d + 6) 210 [.ref 55, .int 1] h1 R ↔ R = (some (.int (iN bs.length)), h2) := r2
        simp (disch := first | assumption | omega) only [e224_0, e224_1, e224_4, e224_6, e224_9, e224_10, e224_13, e224_15, e224_18, e224_21, e224_22, e224_23, e224_25, e224_26, e224_27, e224_30, e224_31, e224_34, e224_35, e224_38, e224_39, e224_40, e224_41, e224_44, e224_47, e224_50, e224_53, e224_56, e224_57, e224_60, e224_63, e224_64, e224_67, e224_70, e224_71, e224_72, e224_75, e224_78, e224_81, m224, ↓reduceIte, qg_0, qg_1, qg_2, qg_3, qg_4, qg_5, qg_6, qg_7, qg_8, qg_9, qg_10, qg_11, qg_12, qg_13, not_true_eq_false, not_false_eq_true, Nat.reduceBEq, Bool.false_eq_true, ex1, ex3, ex4, exF, qfit_i, qfit_l, qfit_r, qfit_n, qfit_b0, qfit_b1, qcat_i, qcat_r, qcat_n, qcat_l, qroom_0, qroom_c, List.map_cons, List.map_nil, List.sum_cons, List.sum_nil, Nat.reduceAdd, Nat.reduceMul, Nat.reduceLT, Nat.reduceLeDiff, Nat.reduceEqDiff, Nat.reduceSub, decide_true, true_and, and_true, and_self, if_true, if_false, Option.toList_some, Option.toList_none, List.cons_append, List.nil_append, qsL, qlong, List.length_cons, List.length_nil, vM1, vM2, r1', bB_t, show ¬ (1 : Int32) = 0 by decide, r2']
      · rw [tB_f so] at r1
        refine ⟨-1003, h1, bs, fun R => ?_, c1.mono (by decide) (by decide), Or.inr (Or.inr (Or.inl ⟨⟨by omega, h16⟩, hs, so, rfl, rfl⟩)), B1⟩
        rw [r0 R, (mo_scan s v h16 R).1 hs]
        have r1' : ∀ R, qMC (d + 6) 208 [.ref 55] h R ↔ R = (some (.int (bB false)), h1) := r1
        simp (disch := first | assumption | omega) only [e224_0, e224_1, e224_4, e224_6, e224_9, e224_10, e224_13, e224_15, e224_18, e224_21, e224_22, e224_23, e224_25, e224_26, e224_27, e224_30, e224_31, e224_34, e224_35, e224_38, e224_39, e224_40, e224_41, e224_44, e224_47, e224_50, e224_53, e224_56, e224_57, e224_60, e224_63, e224_64, e224_67, e224_70, e224_71, e224_72, e224_75, e224_78, e224_81, m224, ↓reduceIte, qg_0, qg_1, qg_2, qg_3, qg_4, qg_5, qg_6, qg_7, qg_8, qg_9, qg_10, qg_11, qg_12, qg_13, not_true_eq_false, not_false_eq_true, Nat.reduceBEq, Bool.false_eq_true, ex1, ex3, ex4, exF, qfit_i, qfit_l, qfit_r, qfit_n, qfit_b0, qfit_b1, qcat_i, qcat_r, qcat_n, qcat_l, qroom_0, qroom_c, List.map_cons, List.map_nil, List.sum_cons, List.sum_nil, Nat.reduceAdd, Nat.reduceMul, Nat.reduceLT, Nat.reduceLeDiff, Nat.reduceEqDiff, Nat.reduceSub, decide_true, true_and, and_true, and_self, if_true, if_false, Option.toList_some, Option.toList_none, List.cons_append, List.nil_append, qsL, qlong, List.length_cons, List.length_nil, vM1, vM2, r1', bB_f]
    · refine ⟨-1005, h, bs, fun R => ?_, Ch.refl s, Or.inr (Or.inl ⟨⟨by omega, h16⟩, hs, rfl, rfl⟩), B⟩
      rw [r0 R]; exact (mo_scan s v h16 R).2 hs
  · refine ⟨-1004, h, bs, fun R => ?_, Ch.refl s, Or.inl ⟨Or.inr (by omega), rfl, rfl⟩, B⟩
    simp (disch := first | assumption | omega) only [e224_0, e224_1, e224_4, e224_6, e224_9, e224_10, e224_13, e224_15, e224_18, e224_21, e224_22, e224_23, e224_25, e224_26, e224_27, e224_30, e224_31, e224_34, e224_35, e224_38, e224_39, e224_40, e224_41, e224_44, e224_47, e224_50, e224_53, e224_56, e224_57, e224_60, e224_63, e224_64, e224_67, e224_70, e224_71, e224_72, e224_75, e224_78, e224_81, m224, ↓reduceIte, qg_0, qg_1, qg_2, qg_3, qg_4, qg_5, qg_6, qg_7, qg_8, qg_9, qg_10, qg_11, qg_12, qg_13, not_true_eq_false, not_false_eq_true, Nat.reduceBEq, Bool.false_eq_true, ex1, ex3, ex4, exF, qfit_i, qfit_l, qfit_r, qfit_n, qfit_b0, qfit_b1, qcat_i, qcat_r, qcat_n, qcat_l, qroom_0, qroom_c, List.map_cons, List.map_nil, List.sum_cons, List.sum_nil, Nat.reduceAdd, Nat.reduceMul, Nat.reduceLT, Nat.reduceLeDiff, Nat.reduceEqDiff, Nat.reduceSub, decide_true, true_and, and_true, and_self, if_true, if_false, Option.toList_some, Option.toList_none, List.cons_append, List.nil_append, qsL, qlong, List.length_cons, List.length_nil, gM_0, gM_9, B.2.1, v.1, show (24 : Int32) = iN 24 from rfl, show (16 : Int32) = iN 16 from rfl, hne, iN_le, h16]
end MO

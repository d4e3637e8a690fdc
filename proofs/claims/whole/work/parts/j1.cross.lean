/-! ===== THE CLASS: rowsWithin, crossRows ===== -/
section XCROSS
variable {d : Nat} {h : qH} {R : qRes}
/-- rows from the least of a set to its others -/
def rwE (E : Nat → Nat → Int) (x : Nat) (V : Nat → Nat → Int) (p : Nat) : Nat → Nat → Int := fun a k => if a < pop x p - 1 ∧ k < 4 then V ((mbr x 16).getD (a + 1) 0) k - V ((mbr x 16).getD 0 0) k else E a k
set_option maxRecDepth 100000 in
set_option maxHeartbeats 16000000 in
theorem x_rowsWithin {E : Nat → Nat → Int} {P : Nat → Int} {V : Nat → Nat → Int} {r m x : Nat} (s : ShX h) (sp : spR h r m V) (hx : x < 65536) (hm : ∀ c, x.testBit c = true → c < m) (hp : 2 ≤ pop x 16 ∧ pop x 16 ≤ 5) : qMC (d + 3) 29 [.ref 19, .int (iN x), .ref r] (H2 h E P) R ↔ R = (some (.int (iN (pop x 16 - 1))), H2 h (rwE E x V 16) P) := by
  obtain ⟨b, hb, hbl⟩ : ∃ b, x.testBit b = true ∧ ∀ j, j < b → x.testBit j = false := by
    obtain ⟨c, -, hc⟩ := cntN_pos.mp (show 0 < cntN (fun k => x.testBit k) 16 by have := hp.1; unfold pop at this; omega)
    obtain ⟨b, -, b1, b2⟩ := least (p := fun c => x.testBit c = true) ⟨c, Nat.le_refl _, hc⟩
    exact ⟨b, b1, fun j hj => by cases e : x.testBit j with | false => rfl | true => exact absurd e (b2 j hj)⟩
  have b16 := bit16 hx hb
  have pb0 : pop x b = 0 := by
    have : ∀ k, k ≤ b → pop x k = 0 := by
      intro k
      induction k with
      | zero => exact fun _ => rfl
      | succ k ih => intro hk; rw [pop_s, ih (by omega), hbl k (by omega)]; rfl
    exact this b (Nat.le_refl _)
  have m0 : (mbr x 16).getD 0 0 = b := by have := mbr_at b16 hb; rw [pb0] at this; exact this
  have pm : ∀ p q, p ≤ q → pop x p ≤ pop x q := by
    intro p q hpq
    induction q with
    | zero => rw [show p = 0 by omega]; exact Nat.le_refl _
    | succ q ih =>
      rcases Nat.lt_or_ge q p with z | z
      · rw [show p = q + 1 by omega]; exact Nat.le_refl _
      · rw [pop_s]; have := ih z; omega
  have pb1 : ∀ p, b < p → 1 ≤ pop x p := fun p hp => by
    have h1 := pm (b + 1) p hp
    rw [pop_s, hb, if_pos rfl] at h1
    omega
  have lo : ∀ R, qMC (d + 2) 178 [.int (iN x)] (H2 h E P) R ↔ R = (some (.int (iN b)), H2 h E P) := fun R => x_leastOf hx hb hbl
  have x0 : 0 < x := by
    rcases Nat.eq_zero_or_pos x with z | z
    · rw [z, Nat.zero_testBit] at hb; cases hb
    · exact z
  have dr : iN x &&& (iN x - iN 1) = iN (wo x (2 ^ b)) := by rw [iN_sub (by omega), iN_and, drop_is hx hb hbl]
  have wl := wo_le x (2 ^ b)
  have E1 : rwE E x V (b + 1) = E := by
    funext a k
    unfold rwE
    rw [pop_s, pb0, hb, if_pos rfl]
    exact if_neg (fun z => absurd z.1 (Nat.not_lt_zero a))
  have go : ∀ (w p : Nat), p + w = 16 → b < p → (qEv (d + 2) 0 qk_29 20 [some (.ref 19), some (.int (iN x)), some (.ref r), some (.int (iN b)), some (.int (iN (wo x (2 ^ b)))), some (.int (iN (pop x p - 1))), some (.int (iN p))] [] (H2 h (rwE E x V p) P) R ↔ R = (some (.int (iN (pop x 16 - 1))), H2 h (rwE E x V 16) P)) := by
    intro w
    induction w with
    | zero =>
      intro p hw hbp
      have ep : p = 16 := by omega
      subst ep
      have sF : ShX (H2 h (rwE E x V 16) P) := (H2_ch s).sh
      rw [e29_20]
      simp (disch := first | assumption | omega) only [e29_0, e29_1, e29_4, e29_5, e29_6, e29_7, e29_8, e29_9, e29_10, e29_12, e29_13, e29_15, e29_16, e29_17, e29_18, e29_22, e29_24, e29_27, e29_29, e29_30, e29_33, e29_35, e29_37, e29_38, e29_39, e29_40, e29_43, e29_44, e29_46, e29_47, e29_49, e29_50, e29_53, e29_56, e29_59, e29_62, e29_64, m29, ↓reduceIte, qg_0, qg_1, qg_2, qg_3, qg_4, qg_5, qg_6, qg_7, qg_8, qg_9, qg_10, qg_11, qg_12, qg_13, not_true_eq_false, not_false_eq_true, Nat.reduceBEq, Bool.false_eq_true, ex1, ex3, ex4, exF, qfit_i, qfit_l, qfit_r, qfit_n, qfit_b0, qfit_b1, qcat_i, qcat_r, qcat_n, qcat_l, qroom_0, qroom_c, List.map_cons, List.map_nil, List.sum_cons, List.sum_nil, Nat.reduceAdd, Nat.reduceMul, Nat.reduceLT, Nat.reduceLeDiff, Nat.reduceEqDiff, Nat.reduceSub, decide_true, true_and, and_true, and_self, if_true, if_false, Option.toList_some, Option.toList_none, List.cons_append, List.nil_append, qsL, qlong, List.length_cons, List.length_nil, iN_L, exI, iN_add, iN_mul, iN_le, iN_lt, iN_eq, Nat.le_refl, qfN0, qfN1, uX_16, vX_16, uX_19, vX_19, uX_27, vX_27, uX_30, vX_30, uX_39, vX_39, uX_41, vX_41, uX_43, vX_43, uX_46, vX_46, uX_50, vX_50, uX_53, vX_53]
    | succ w ih =>
      intro p hw hbp
      have sF : ShX (H2 h (rwE E x V p) P) := (H2_ch s).sh
      have p1 := pb1 p hbp
      have pl := pm p 16 (by omega)
      have wb : (wo x (2 ^ b)).testBit p = x.testBit p := by rw [wo_bit, Nat.testBit_two_pow, decide_eq_false (show ¬ b = p by omega), Bool.not_false, Bool.and_true]
      by_cases r4 : 4 ≤ pop x p - 1
      · have e1 : pop x p = pop x 16 := by omega
        have e2 : rwE E x V p = rwE E x V 16 := by unfold rwE; rw [e1]
        rw [e29_20, e1, e2]
        rw [e1] at r4
        simp (disch := first | assumption | omega) only [e29_0, e29_1, e29_4, e29_5, e29_6, e29_7, e29_8, e29_9, e29_10, e29_12, e29_13, e29_15, e29_16, e29_17, e29_18, e29_22, e29_24, e29_27, e29_29, e29_30, e29_33, e29_35, e29_37, e29_38, e29_39, e29_40, e29_43, e29_44, e29_46, e29_47, e29_49, e29_50, e29_53, e29_56, e29_59, e29_62, e29_64, m29, ↓reduceIte, qg_0, qg_1, qg_2, qg_3, qg_4, qg_5, qg_6, qg_7, qg_8, qg_9, qg_10, qg_11, qg_12, qg_13, not_true_eq_false, not_false_eq_true, Nat.reduceBEq, Bool.false_eq_true, ex1, ex3, ex4, exF, qfit_i, qfit_l, qfit_r, qfit_n, qfit_b0, qfit_b1, qcat_i, qcat_r, qcat_n, qcat_l, qroom_0, qroom_c, List.map_cons, List.map_nil, List.sum_cons, List.sum_nil, Nat.reduceAdd, Nat.reduceMul, Nat.reduceLT, Nat.reduceLeDiff, Nat.reduceEqDiff, Nat.reduceSub, decide_true, true_and, and_true, and_self, if_true, if_false, Option.toList_some, Option.toList_none, List.cons_append, List.nil_append, qsL, qlong, List.length_cons, List.length_nil, iN_L, exI, iN_add, iN_mul, iN_le, iN_lt, iN_eq, Nat.le_refl, qfN0, qfN1, uX_16, vX_16, uX_19, vX_19, uX_27, vX_27, uX_30, vX_30, uX_39, vX_39, uX_41, vX_41, uX_43, vX_43, uX_46, vX_46, uX_50, vX_50, uX_53, vX_53, show ¬ 16 ≤ p by omega, r4]
      · cases q : x.testBit p with
        | false =>
          have e1 : pop x (p + 1) = pop x p := by rw [pop_s, q]; rfl
          have e2 : rwE E x V (p + 1) = rwE E x V p := by unfold rwE; rw [e1]
          have := ih (p + 1) (by omega) (by omega)
          rw [e1, e2] at this
          rw [← this, e29_20]
          simp (disch := first | assumption | omega) only [e29_0, e29_1, e29_4, e29_5, e29_6, e29_7, e29_8, e29_9, e29_10, e29_12, e29_13, e29_15, e29_16, e29_17, e29_18, e29_22, e29_24, e29_27, e29_29, e29_30, e29_33, e29_35, e29_37, e29_38, e29_39, e29_40, e29_43, e29_44, e29_46, e29_47, e29_49, e29_50, e29_53, e29_56, e29_59, e29_62, e29_64, m29, ↓reduceIte, qg_0, qg_1, qg_2, qg_3, qg_4, qg_5, qg_6, qg_7, qg_8, qg_9, qg_10, qg_11, qg_12, qg_13, not_true_eq_false, not_false_eq_true, Nat.reduceBEq, Bool.false_eq_true, ex1, ex3, ex4, exF, qfit_i, qfit_l, qfit_r, qfit_n, qfit_b0, qfit_b1, qcat_i, qcat_r, qcat_n, qcat_l, qroom_0, qroom_c, List.map_cons, List.map_nil, List.sum_cons, List.sum_nil, Nat.reduceAdd, Nat.reduceMul, Nat.reduceLT, Nat.reduceLeDiff, Nat.reduceEqDiff, Nat.reduceSub, decide_true, true_and, and_true, and_self, if_true, if_false, Option.toList_some, Option.toList_none, List.cons_append, List.nil_append, qsL, qlong, List.length_cons, List.length_nil, iN_L, exI, iN_add, iN_mul, iN_le, iN_lt, iN_eq, Nat.le_refl, qfN0, qfN1, uX_16, vX_16, uX_19, vX_19, uX_27, vX_27, uX_30, vX_30, uX_39, vX_39, uX_41, vX_41, uX_43, vX_43, uX_46, vX_46, uX_50, vX_50, uX_53, vX_53, show ¬ 16 ≤ p by omega, r4, bit0 (show wo x (2 ^ b) < 2147483648 by omega) (show p < 32 by omega) (wb.trans q)]
        | true =>
          have e1 : pop x (p + 1) = pop x p + 1 := by rw [pop_s, q]; rfl
          have mp : (mbr x 16).getD (pop x p) 0 = p := mbr_at (by omega) q
          have e2 : updE (rwE E x V p) (pop x p - 1) (fun k => V p k - V b k) = rwE E x V (p + 1) := by
            funext a k
            unfold updE rwE
            rw [e1, show pop x p + 1 - 1 = pop x p by omega]
            by_cases z : a = pop x p - 1 ∧ k < 4
            · rw [if_pos z, if_pos ⟨by omega, z.2⟩, m0, z.1, show pop x p - 1 + 1 = pop x p by omega, mp]
            · rw [if_neg z]
              by_cases z2 : a < pop x p - 1 ∧ k < 4
              · rw [if_pos z2, if_pos ⟨by omega, z2.2⟩]
              · rw [if_neg z2, if_neg (fun y => by
                  rcases Nat.lt_or_ge a (pop x p - 1) with w | w
                  · exact z2 ⟨w, y.2⟩
                  · exact z ⟨by omega, y.2⟩)]
          have rb : ∀ R, qMC (d + 2) 27 [.ref 19, .int (iN (pop x p - 1)), .ref r, .int (iN p), .int (iN b)] (H2 h (rwE E x V p) P) R ↔ R = (none, H2 h (rwE E x V (p + 1)) P) := fun R => by
            rw [← e2]
            exact x_rowBetween s sp (by omega) (hm p q) (hm b hb)
          have := ih (p + 1) (by omega) (by omega)
          rw [e1, show pop x p + 1 - 1 = pop x p - 1 + 1 by omega] at this
          rw [← this, e29_20]
          simp (disch := first | assumption | omega) only [e29_0, e29_1, e29_4, e29_5, e29_6, e29_7, e29_8, e29_9, e29_10, e29_12, e29_13, e29_15, e29_16, e29_17, e29_18, e29_22, e29_24, e29_27, e29_29, e29_30, e29_33, e29_35, e29_37, e29_38, e29_39, e29_40, e29_43, e29_44, e29_46, e29_47, e29_49, e29_50, e29_53, e29_56, e29_59, e29_62, e29_64, m29, ↓reduceIte, qg_0, qg_1, qg_2, qg_3, qg_4, qg_5, qg_6, qg_7, qg_8, qg_9, qg_10, qg_11, qg_12, qg_13, not_true_eq_false, not_false_eq_true, Nat.reduceBEq, Bool.false_eq_true, ex1, ex3, ex4, exF, qfit_i, qfit_l, qfit_r, qfit_n, qfit_b0, qfit_b1, qcat_i, qcat_r, qcat_n, qcat_l, qroom_0, qroom_c, List.map_cons, List.map_nil, List.sum_cons, List.sum_nil, Nat.reduceAdd, Nat.reduceMul, Nat.reduceLT, Nat.reduceLeDiff, Nat.reduceEqDiff, Nat.reduceSub, decide_true, true_and, and_true, and_self, if_true, if_false, Option.toList_some, Option.toList_none, List.cons_append, List.nil_append, qsL, qlong, List.length_cons, List.length_nil, iN_L, exI, iN_add, iN_mul, iN_le, iN_lt, iN_eq, Nat.le_refl, qfN0, qfN1, uX_16, vX_16, uX_19, vX_19, uX_27, vX_27, uX_30, vX_30, uX_39, vX_39, uX_41, vX_41, uX_43, vX_43, uX_46, vX_46, uX_50, vX_50, uX_53, vX_53, show ¬ 16 ≤ p by omega, r4, bit1 (show wo x (2 ^ b) < 2147483648 by omega) (show p < 32 by omega) (wb.trans q), iN10, rb]
  have r0 : qMC (d + 3) 29 [.ref 19, .int (iN x), .ref r] (H2 h E P) R ↔ qEv (d + 2) 0 qk_29 20 [some (.ref 19), some (.int (iN x)), some (.ref r), some (.int (iN b)), some (.int (iN (wo x (2 ^ b)))), some (.int (iN (pop x (b + 1) - 1))), some (.int (iN (b + 1)))] [] (H2 h (rwE E x V (b + 1)) P) R := by
    rw [E1, show pop x (b + 1) - 1 = 0 by rw [pop_s, pb0, hb]; rfl]
    have sF : ShX (H2 h E P) := (H2_ch s).sh
    simp (disch := first | assumption | omega) only [e29_0, e29_1, e29_4, e29_5, e29_6, e29_7, e29_8, e29_9, e29_10, e29_12, e29_13, e29_15, e29_16, e29_17, e29_18, e29_22, e29_24, e29_27, e29_29, e29_30, e29_33, e29_35, e29_37, e29_38, e29_39, e29_40, e29_43, e29_44, e29_46, e29_47, e29_49, e29_50, e29_53, e29_56, e29_59, e29_62, e29_64, m29, ↓reduceIte, qg_0, qg_1, qg_2, qg_3, qg_4, qg_5, qg_6, qg_7, qg_8, qg_9, qg_10, qg_11, qg_12, qg_13, not_true_eq_false, not_false_eq_true, Nat.reduceBEq, Bool.false_eq_true, ex1, ex3, ex4, exF, qfit_i, qfit_l, qfit_r, qfit_n, qfit_b0, qfit_b1, qcat_i, qcat_r, qcat_n, qcat_l, qroom_0, qroom_c, List.map_cons, List.map_nil, List.sum_cons, List.sum_nil, Nat.reduceAdd, Nat.reduceMul, Nat.reduceLT, Nat.reduceLeDiff, Nat.reduceEqDiff, Nat.reduceSub, decide_true, true_and, and_true, and_self, if_true, if_false, Option.toList_some, Option.toList_none, List.cons_append, List.nil_append, qsL, qlong, List.length_cons, List.length_nil, iN_L, exI, iN_add, iN_mul, iN_le, iN_lt, iN_eq, Nat.le_refl, qfN0, qfN1, uX_16, vX_16, uX_19, vX_19, uX_27, vX_27, uX_30, vX_30, uX_39, vX_39, uX_41, vX_41, uX_43, vX_43, uX_46, vX_46, uX_50, vX_50, uX_53, vX_53, lo, dr]
  rw [r0]
  exact go (16 - (b + 1)) (b + 1) (by omega) (by omega)
/-- at right angles to three rows -/
def crP (E : Nat → Nat → Int) (P : Nat → Int) : Nat → Int := fun b => if b = 3 then -cu3 E 0 1 2 0 1 2 else if b = 2 then cu3 E 0 1 2 0 1 3 else if b = 1 then -cu3 E 0 1 2 0 2 3 else if b = 0 then cu3 E 0 1 2 1 2 3 else P b
set_option maxRecDepth 100000 in
set_option maxHeartbeats 64000000 in
theorem x_cross {E : Nat → Nat → Int} {P : Nat → Int} (s : ShX h) : qMC (d + 1) 31 [.ref 19] (H2 h E P) R ↔ R = (none, H2 h E (crP E P)) := by
  have sH : ∀ P, ShX (H2 h E P) := fun P => (H2_ch s).sh
  have g7 : ∀ P, qget (H2 h E P) 19 2 7 = some (.ref 23) := fun P => gX_19_7 (sH P)
  have g8 : ∀ P, qget (H2 h E P) 19 2 8 = some (.ref 24) := fun P => gX_19_8 (sH P)
  have q0 : ∀ P, qlald (H2 h E P) 23 (iN 0) = some (lZ (E 0 0)) := fun P => H2_r23 s (r := 0) (k := 0) (by decide) (by decide)
  have q1 : ∀ P, qlald (H2 h E P) 23 (iN 1) = some (lZ (E 0 1)) := fun P => H2_r23 s (r := 0) (k := 1) (by decide) (by decide)
  have q2 : ∀ P, qlald (H2 h E P) 23 (iN 2) = some (lZ (E 0 2)) := fun P => H2_r23 s (r := 0) (k := 2) (by decide) (by decide)
  have q3 : ∀ P, qlald (H2 h E P) 23 (iN 3) = some (lZ (E 0 3)) := fun P => H2_r23 s (r := 0) (k := 3) (by decide) (by decide)
  have q4 : ∀ P, qlald (H2 h E P) 23 (iN 4) = some (lZ (E 1 0)) := fun P => H2_r23 s (r := 1) (k := 0) (by decide) (by decide)
  have q5 : ∀ P, qlald (H2 h E P) 23 (iN 5) = some (lZ (E 1 1)) := fun P => H2_r23 s (r := 1) (k := 1) (by decide) (by decide)
  have q6 : ∀ P, qlald (H2 h E P) 23 (iN 6) = some (lZ (E 1 2)) := fun P => H2_r23 s (r := 1) (k := 2) (by decide) (by decide)
  have q7 : ∀ P, qlald (H2 h E P) 23 (iN 7) = some (lZ (E 1 3)) := fun P => H2_r23 s (r := 1) (k := 3) (by decide) (by decide)
  have q8 : ∀ P, qlald (H2 h E P) 23 (iN 8) = some (lZ (E 2 0)) := fun P => H2_r23 s (r := 2) (k := 0) (by decide) (by decide)
  have q9 : ∀ P, qlald (H2 h E P) 23 (iN 9) = some (lZ (E 2 1)) := fun P => H2_r23 s (r := 2) (k := 1) (by decide) (by decide)
  have qa : ∀ P, qlald (H2 h E P) 23 (iN 10) = some (lZ (E 2 2)) := fun P => H2_r23 s (r := 2) (k := 2) (by decide) (by decide)
  have qb : ∀ P, qlald (H2 h E P) 23 (iN 11) = some (lZ (E 2 3)) := fun P => H2_r23 s (r := 2) (k := 3) (by decide) (by decide)
  have w0 : ∀ P z, qlast (H2 h E P) 24 (iN 0) (lZ z) = some (H2 h E (fun b => if b = 0 then z else P b)) := fun P z => H2_w24 s (by decide)
  have w1 : ∀ P z, qlast (H2 h E P) 24 (iN 1) (lZ z) = some (H2 h E (fun b => if b = 1 then z else P b)) := fun P z => H2_w24 s (by decide)
  have w2 : ∀ P z, qlast (H2 h E P) 24 (iN 2) (lZ z) = some (H2 h E (fun b => if b = 2 then z else P b)) := fun P z => H2_w24 s (by decide)
  have w3 : ∀ P z, qlast (H2 h E P) 24 (iN 3) (lZ z) = some (H2 h E (fun b => if b = 3 then z else P b)) := fun P z => H2_w24 s (by decide)
  simp (disch := first | assumption | omega) only [e31_0, e31_1, e31_4, e31_5, e31_6, e31_7, e31_10, e31_12, e31_13, e31_14, e31_15, e31_18, e31_19, e31_20, e31_21, e31_24, e31_26, e31_27, e31_28, e31_29, e31_30, e31_31, e31_34, e31_35, e31_36, e31_37, e31_40, e31_42, e31_43, e31_44, e31_45, e31_48, e31_50, e31_51, e31_52, e31_55, e31_57, e31_58, e31_59, e31_60, e31_61, e31_62, e31_65, e31_66, e31_67, e31_68, e31_71, e31_73, e31_74, e31_75, e31_76, e31_79, e31_81, e31_82, e31_83, e31_86, e31_88, e31_89, e31_90, e31_91, e31_93, e31_94, e31_97, e31_98, e31_99, e31_100, e31_103, e31_105, e31_106, e31_107, e31_108, e31_111, e31_113, e31_114, e31_115, e31_118, e31_120, e31_121, e31_122, e31_123, e31_125, e31_126, e31_129, e31_130, e31_131, e31_132, e31_135, e31_137, e31_138, e31_139, e31_140, e31_143, e31_145, e31_146, e31_147, e31_150, e31_152, e31_153, e31_154, e31_155, e31_157, e31_158, e31_161, e31_163, e31_164, e31_165, e31_168, e31_170, e31_171, e31_172, e31_173, e31_176, e31_178, e31_179, e31_180, e31_183, e31_185, e31_186, e31_187, e31_188, e31_190, e31_191, e31_194, e31_195, e31_196, e31_199, e31_200, e31_201, e31_203, e31_204, e31_205, e31_208, e31_209, e31_210, e31_212, e31_213, e31_214, e31_215, e31_218, e31_219, e31_220, e31_222, e31_223, e31_224, e31_225, e31_226, e31_229, e31_230, e31_231, e31_234, e31_235, e31_236, e31_238, e31_239, e31_240, e31_243, e31_244, e31_245, e31_247, e31_248, e31_249, e31_250, e31_253, e31_254, e31_255, e31_256, e31_257, e31_258, e31_259, e31_260, e31_261, e31_264, e31_265, e31_266, e31_269, e31_270, e31_271, e31_273, e31_274, e31_275, e31_278, e31_279, e31_280, e31_282, e31_283, e31_284, e31_285, e31_288, e31_289, e31_290, e31_291, e31_292, e31_293, e31_294, e31_295, e31_298, e31_299, e31_300, e31_303, e31_304, e31_305, e31_307, e31_308, e31_309, e31_312, e31_313, e31_314, e31_315, e31_316, e31_317, e31_318, e31_321, e31_322, e31_323, e31_324, e31_325, e31_326, e31_327, e31_328, m31, ↓reduceIte, qg_0, qg_1, qg_2, qg_3, qg_4, qg_5, qg_6, qg_7, qg_8, qg_9, qg_10, qg_11, qg_12, qg_13, not_true_eq_false, not_false_eq_true, Nat.reduceBEq, Bool.false_eq_true, ex1, ex3, ex4, exF, qfit_i, qfit_l, qfit_r, qfit_n, qfit_b0, qfit_b1, qcat_i, qcat_r, qcat_n, qcat_l, qroom_0, qroom_c, List.map_cons, List.map_nil, List.sum_cons, List.sum_nil, Nat.reduceAdd, Nat.reduceMul, Nat.reduceLT, Nat.reduceLeDiff, Nat.reduceEqDiff, Nat.reduceSub, decide_true, true_and, and_true, and_self, if_true, if_false, Option.toList_some, Option.toList_none, List.cons_append, List.nil_append, qsL, qlong, List.length_cons, List.length_nil, iN_L, exI, iN_add, iN_mul, iN_le, iN_lt, iN_eq, Nat.le_refl, qfN0, qfN1, uX_16, vX_16, uX_19, vX_19, uX_27, vX_27, uX_30, vX_30, uX_39, vX_39, uX_41, vX_41, uX_43, vX_43, uX_46, vX_46, uX_50, vX_50, uX_53, vX_53, g7, g8, q0, q1, q2, q3, q4, q5, q6, q7, q8, q9, qa, qb, lZ_mul, lZ_sub, lZ_add, lZ_neg, w0, w1, w2, w3]
  exact Iff.rfl
end XCROSS

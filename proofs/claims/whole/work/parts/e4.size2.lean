/-! ===== THE REFERENCE: size, piece, about ===== -/
section SIZE2
variable {d : Nat} {h : qH} {bs : List bdy} {i : Nat}
theorem cel_ne {k y : Nat} (B : BsM h bs) (hi' : i < bs.length) (hy : y ∈ cel bs i k) : 0 < y ∧ y < 65536 := by
  obtain ⟨m, S, G, b⟩ := B.G hi'
  obtain ⟨h1, h2⟩ := cls_mem.mp hy
  refine ⟨?_, h1⟩
  rcases h2 with ⟨-, hf⟩ | ⟨-, hm, -⟩
  · obtain ⟨j, hj, rfl⟩ := b.fcI.mp hf
    have hc := b.card hj
    have := (B.dim hi').2.1
    refine Nat.pos_of_ne_zero fun e => ?_
    rw [e] at hc
    have e0 : pop 0 16 = 0 := by decide
    have : 2 ≤ (bs.getD i b0).2.1 := this
    omega
  · exact Nat.pos_of_ne_zero hm.1
theorem pcL_mem {y : Nat} (B : BsM h bs) (hi' : i < bs.length) (hy : y ∈ pcL bs i) : y < 65536 ∧ pop y (cnr bs i).length = dmn bs i + 1 := by
  have li := (B.corn hi').2.1
  have nc := B.nc hi'
  obtain ⟨di, di2, di4⟩ := B.dim hi'
  obtain ⟨D, eD⟩ : ∃ D, dmn bs i = D + 1 := ⟨dmn bs i - 1, by omega⟩
  have px : 2 ^ (cnr bs i).length ≤ 65536 := show 2 ^ (cnr bs i).length ≤ 2 ^ 16 from Nat.pow_le_pow_right (by decide) li
  have p1 : 2 ^ 1 ≤ 2 ^ (cnr bs i).length := Nat.pow_le_pow_right (by decide) (by omega)
  unfold pcL at hy
  rw [eD] at hy
  obtain ⟨h1, h2⟩ := pcs_pop (bs := bs) (i := i) (fun k y hy => cel_ne B hi' hy) (fun y hy => edge_two B hi' hy) D (2 ^ (cnr bs i).length - 1) 0 (by omega) (by omega) (by omega) (fun c hc => by rw [Nat.zero_testBit] at hc; exact Bool.false_ne_true hc.2) (by omega) y hy
  have hb : ∀ c, y.testBit c = true → c < (cnr bs i).length := fun c hc => by
    rcases h2 c hc with w | w
    · rw [Nat.testBit_two_pow_sub_one] at w; exact of_decide_eq_true w
    · rw [Nat.zero_testBit] at w; cases w
  refine ⟨?_, ?_⟩
  · show y < 2 ^ 16
    refine Nat.lt_pow_two_of_testBit y fun c hc => ?_
    cases e : y.testBit c with
    | false => rfl
    | true => have := hb c e; omega
  · have : pop y 24 = pop y (cnr bs i).length := cntN_cut (by omega) fun k h1 _ h3 => by have := hb k h3; omega
    rw [← this, h1, eD, show pop 0 24 = 0 by decide]
theorem pcL_at {t : Nat} (B : BsM h bs) (hi' : i < bs.length) (ht : t < (pcL bs i).length) : (pcL bs i).getD t 0 < 65536 ∧ pop ((pcL bs i).getD t 0) (cnr bs i).length = dmn bs i + 1 := pcL_mem B hi' (by rw [List.getD_eq_getElem?_getD, List.getElem?_eq_getElem ht]; exact List.getElem_mem ht)
noncomputable def szS (bs : List bdy) (i : Nat) : Nat → Int := sumZ fun t => (szP bs i ((pcL bs i).getD t 0) : Int)
def sizR (bs : List bdy) (x : Int32) (v : Int64) : Prop := (¬ isB bs x ∧ v = -1001) ∨ ∃ i, (i < bs.length ∧ x = iN i) ∧ v = lZ (szS bs i (pcL bs i).length)
set_option maxRecDepth 100000 in
set_option maxHeartbeats 16000000 in
theorem sz_sum {h0 : qH} (s : ShM h0) (B : BsM h0 bs) (hi' : i < bs.length) (hp : (pcL bs i).length ≤ 4000) (m41 : mi h0 41 = iN (pcL bs i).length) (v86 : ∀ t, t < (pcL bs i).length → hi h0 86 t = iN ((pcL bs i).getD t 0)) : ∀ (w t : Nat) (h1 : qH), t + w = (pcL bs i).length → Ch [90] [] h0 h1 → ∃ h', (∀ R, qEv (d + 3) 1 qk_288 23 [some (.ref 55), some (.int (iN i)), some (.long (lZ (szS bs i t))), none, some (.int (iN t))] [] h1 R ↔ R = (some (.long (lZ (szS bs i (pcL bs i).length))), h')) ∧ Ch [90] [] h0 h' := by
  intro w
  induction w with
  | zero =>
    intro t h1 ht c1
    have e : t = (pcL bs i).length := by omega
    subst e
    have s1 := c1.sh
    have m1 : mi h1 41 = iN (pcL bs i).length := by rw [c1.mi (by decide)]; exact m41
    refine ⟨h1, fun R => ?_, c1⟩
    rw [e288_23]
    simp (disch := first | assumption | omega) only [e288_0, e288_1, e288_2, e288_5, e288_8, e288_11, e288_12, e288_13, e288_14, e288_17, e288_18, e288_19, e288_20, e288_21, e288_25, e288_26, e288_29, e288_32, e288_33, e288_34, e288_35, e288_36, e288_39, e288_41, e288_42, e288_45, e288_46, e288_47, e288_50, e288_53, e288_54, m288, ↓reduceIte, qg_0, qg_1, qg_2, qg_3, qg_4, qg_5, qg_6, qg_7, qg_8, qg_9, qg_10, qg_11, qg_12, qg_13, not_true_eq_false, not_false_eq_true, Nat.reduceBEq, Bool.false_eq_true, ex1, ex3, ex4, exF, qfit_i, qfit_l, qfit_r, qfit_n, qfit_b0, qfit_b1, qcat_i, qcat_r, qcat_n, qcat_l, qroom_0, qroom_c, List.map_cons, List.map_nil, List.sum_cons, List.sum_nil, Nat.reduceAdd, Nat.reduceMul, Nat.reduceLT, Nat.reduceLeDiff, Nat.reduceEqDiff, Nat.reduceSub, decide_true, true_and, and_true, and_self, if_true, if_false, Option.toList_some, Option.toList_none, List.cons_append, List.nil_append, qsL, qlong, List.length_cons, List.length_nil, iN_L, vM1, vM2, exI, iN_add, iN_mul, iN_le, iN_lt, iN_eq, Nat.le_refl, qfN0, qfN1, gM_41, m1]
  | succ w ih =>
    intro t h1 ht c1
    have s1 := c1.sh
    have B1 : BsM h1 bs := B.ch c1 (by decide) (by decide)
    have m1 : mi h1 41 = iN (pcL bs i).length := by rw [c1.mi (by decide)]; exact m41
    have v1 : hi h1 86 t = iN ((pcL bs i).getD t 0) := by rw [c1.hi (by decide) (by decide)]; exact v86 t (by omega)
    obtain ⟨p1, p2⟩ := pcL_at (t := t) B hi' (by omega)
    obtain ⟨h2, r2, c2⟩ := s_sizeOf (d := d) s1 B1 hi' p1 p2
    obtain ⟨h', r, c'⟩ := ih (t + 1) h2 (by omega) (c1.trans c2)
    refine ⟨h', fun R => ?_, c'⟩
    rw [← r R, show szS bs i (t + 1) = szS bs i t + (szP bs i ((pcL bs i).getD t 0) : Int) from rfl, ← lZ_add, e288_23]
    simp (disch := first | assumption | omega) only [e288_0, e288_1, e288_2, e288_5, e288_8, e288_11, e288_12, e288_13, e288_14, e288_17, e288_18, e288_19, e288_20, e288_21, e288_25, e288_26, e288_29, e288_32, e288_33, e288_34, e288_35, e288_36, e288_39, e288_41, e288_42, e288_45, e288_46, e288_47, e288_50, e288_53, e288_54, m288, ↓reduceIte, qg_0, qg_1, qg_2, qg_3, qg_4, qg_5, qg_6, qg_7, qg_8, qg_9, qg_10, qg_11, qg_12, qg_13, not_true_eq_false, not_false_eq_true, Nat.reduceBEq, Bool.false_eq_true, ex1, ex3, ex4, exF, qfit_i, qfit_l, qfit_r, qfit_n, qfit_b0, qfit_b1, qcat_i, qcat_r, qcat_n, qcat_l, qroom_0, qroom_c, List.map_cons, List.map_nil, List.sum_cons, List.sum_nil, Nat.reduceAdd, Nat.reduceMul, Nat.reduceLT, Nat.reduceLeDiff, Nat.reduceEqDiff, Nat.reduceSub, decide_true, true_and, and_true, and_self, if_true, if_false, Option.toList_some, Option.toList_none, List.cons_append, List.nil_append, qsL, qlong, List.length_cons, List.length_nil, iN_L, vM1, vM2, exI, iN_add, iN_mul, iN_le, iN_lt, iN_eq, Nat.le_refl, qfN0, qfN1, gM_41, m1, show ¬ (pcL bs i).length ≤ t by omega, gM_42, rM_86, v1, r2]
set_option maxRecDepth 100000 in
set_option maxHeartbeats 16000000 in
theorem s_size {x : Int32} (s : ShM h) (B : BsM h bs) (hp : ∀ i, i < bs.length → (pcL bs i).length ≤ 4000) : ∃ h' r, (∀ R, qMC (d + 5) 288 [.ref 55, .int x] h R ↔ R = (some (.long r), h')) ∧ Ch [86, 87, 88, 89, 90] [41, 43] h h' ∧ sizR bs x r := by
  by_cases hx : isB bs x
  · have bx := fun R => s_isBody1 (d := d + 2) (R := R) s B hx
    obtain ⟨i, hi', rfl⟩ := hx
    obtain ⟨h1, r1, c1, m41, v86⟩ := s_findPieces (d := d) s B hi' (hp i hi')
    have B1 : BsM h1 bs := B.ch c1 (by decide) (by decide)
    obtain ⟨h2, r2, c2⟩ := sz_sum (d := d + 1) c1.sh B1 hi' (hp i hi') m41 v86 (pcL bs i).length 0 h1 (by omega) (Ch.refl c1.sh)
    refine ⟨h2, _, fun R => ?_, (c1.mono (by decide) (by decide)).trans (c2.mono (by decide) (by decide)), Or.inr ⟨i, ⟨hi', rfl⟩, rfl⟩⟩
    rw [← r2 R, show lZ (szS bs i 0) = 0 from rfl]
    simp (disch := first | assumption | omega) only [e288_0, e288_1, e288_2, e288_5, e288_8, e288_11, e288_12, e288_13, e288_14, e288_17, e288_18, e288_19, e288_20, e288_21, e288_25, e288_26, e288_29, e288_32, e288_33, e288_34, e288_35, e288_36, e288_39, e288_41, e288_42, e288_45, e288_46, e288_47, e288_50, e288_53, e288_54, m288, ↓reduceIte, qg_0, qg_1, qg_2, qg_3, qg_4, qg_5, qg_6, qg_7, qg_8, qg_9, qg_10, qg_11, qg_12, qg_13, not_true_eq_false, not_false_eq_true, Nat.reduceBEq, Bool.false_eq_true, ex1, ex3, ex4, exF, qfit_i, qfit_l, qfit_r, qfit_n, qfit_b0, qfit_b1, qcat_i, qcat_r, qcat_n, qcat_l, qroom_0, qroom_c, List.map_cons, List.map_nil, List.sum_cons, List.sum_nil, Nat.reduceAdd, Nat.reduceMul, Nat.reduceLT, Nat.reduceLeDiff, Nat.reduceEqDiff, Nat.reduceSub, decide_true, true_and, and_true, and_self, if_true, if_false, Option.toList_some, Option.toList_none, List.cons_append, List.nil_append, qsL, qlong, List.length_cons, List.length_nil, iN_L, vM1, vM2, exI, iN_add, iN_mul, iN_le, iN_lt, iN_eq, Nat.le_refl, qfN0, qfN1, bx, iN10, r1]
    try exact Iff.rfl
  · refine ⟨h, -1001, fun R => ?_, Ch.refl s, Or.inl ⟨hx, rfl⟩⟩
    simp (disch := first | assumption | omega) only [e288_0, e288_1, e288_2, e288_5, e288_8, e288_11, e288_12, e288_13, e288_14, e288_17, e288_18, e288_19, e288_20, e288_21, e288_25, e288_26, e288_29, e288_32, e288_33, e288_34, e288_35, e288_36, e288_39, e288_41, e288_42, e288_45, e288_46, e288_47, e288_50, e288_53, e288_54, m288, ↓reduceIte, qg_0, qg_1, qg_2, qg_3, qg_4, qg_5, qg_6, qg_7, qg_8, qg_9, qg_10, qg_11, qg_12, qg_13, not_true_eq_false, not_false_eq_true, Nat.reduceBEq, Bool.false_eq_true, ex1, ex3, ex4, exF, qfit_i, qfit_l, qfit_r, qfit_n, qfit_b0, qfit_b1, qcat_i, qcat_r, qcat_n, qcat_l, qroom_0, qroom_c, List.map_cons, List.map_nil, List.sum_cons, List.sum_nil, Nat.reduceAdd, Nat.reduceMul, Nat.reduceLT, Nat.reduceLeDiff, Nat.reduceEqDiff, Nat.reduceSub, decide_true, true_and, and_true, and_self, if_true, if_false, Option.toList_some, Option.toList_none, List.cons_append, List.nil_append, qsL, qlong, List.length_cons, List.length_nil, iN_L, vM1, vM2, exI, iN_add, iN_mul, iN_le, iN_lt, iN_eq, Nat.le_refl, qfN0, qfN1, s_isBody0 (d := d + 2) s B hx]
/-- the answer of `piece` -/
noncomputable def pieR (bs : List bdy) (x y z : Int32) (v : Int64) : Prop := (¬ isB bs x ∧ v = -1001) ∨ ∃ i, (i < bs.length ∧ x = iN i) ∧ ((¬ (z = iN 0 ∨ z = iN 1) ∧ v = -1002) ∨ ((z = iN 0 ∨ z = iN 1) ∧ (((¬ ∃ t, t < (pcL bs i).length ∧ y = iN t) ∧ v = -1) ∨ ∃ t, (t < (pcL bs i).length ∧ y = iN t) ∧ ((z = iN 0 ∧ v = lZ ((pcL bs i).getD t 0 : Nat)) ∨ (z = iN 1 ∧ v = lZ (szP bs i ((pcL bs i).getD t 0)))))))
set_option maxRecDepth 100000 in
set_option maxHeartbeats 16000000 in
theorem s_piece {x y z : Int32} (s : ShM h) (B : BsM h bs) (hp : ∀ i, i < bs.length → (pcL bs i).length ≤ 4000) : ∃ h' r, (∀ R, qMC (d + 5) 289 [.ref 55, .int x, .int y, .int z] h R ↔ R = (some (.long r), h')) ∧ Ch [86, 87, 88, 89, 90] [41, 43] h h' ∧ pieR bs x y z r := by
  by_cases hx : isB bs x
  · have bx := fun R => s_isBody1 (d := d + 2) (R := R) s B hx
    obtain ⟨i, hi', rfl⟩ := hx
    have hl := hp i hi'
    have rng : ((0 : Int64) ≤ z.toInt64 ∧ z.toInt64 ≤ (1 : Int64)) ↔ (z = iN 0 ∨ z = iN 1) := by
      refine (rng_N (x := z) (a := 0) (b := 1) (by omega) (by omega)).trans ⟨fun ⟨k, h1, h2⟩ => ?_, fun w => ?_⟩
      · rcases (show k = 0 ∨ k = 1 by omega) with rfl | rfl
        · exact Or.inl h2
        · exact Or.inr h2
      · rcases w with w | w
        · exact ⟨0, ⟨by omega, by omega⟩, w⟩
        · exact ⟨1, ⟨by omega, by omega⟩, w⟩
    by_cases hz : z = iN 0 ∨ z = iN 1
    · have hb : bI ((0 : Int64) ≤ z.toInt64 ∧ z.toInt64 ≤ (1 : Int64)) = iN 1 := if_pos (rng.mpr hz)
      obtain ⟨h1, r1, c1, m41, v86⟩ := s_findPieces (d := d) s B hi' hl
      have s1 := c1.sh
      have B1 : BsM h1 bs := B.ch c1 (by decide) (by decide)
      have c1' : Ch [86, 87, 88, 89, 90] [41, 43] h h1 := c1.mono (by decide) (by decide)
      have rn2 : ((0 : Int64) ≤ y.toInt64 ∧ y.toInt64 ≤ (iN (pcL bs i).length - iN 1).toInt64) ↔ ∃ k, k < (pcL bs i).length ∧ y = iN k := in_cnt (x := y) (n := (pcL bs i).length) (by omega)
      by_cases hy : ∃ t, t < (pcL bs i).length ∧ y = iN t
      · have hb2 : bI ((0 : Int64) ≤ y.toInt64 ∧ y.toInt64 ≤ (iN (pcL bs i).length - iN 1).toInt64) = iN 1 := if_pos (rn2.mpr hy)
        obtain ⟨t, ht, rfl⟩ := hy
        have vt := v86 t ht
        obtain ⟨p1, p2⟩ := pcL_at (t := t) B hi' ht
        rcases hz with rfl | rfl
        · have tl : (iN ((pcL bs i).getD t 0)).toInt64 = lZ ((pcL bs i).getD t 0 : Nat) := by rw [← iZ_nat, iZ_long ⟨by omega, by omega⟩]
          refine ⟨h1, _, fun R => ?_, c1', Or.inr ⟨i, ⟨hi', rfl⟩, Or.inr ⟨Or.inl rfl, Or.inr ⟨t, ⟨ht, rfl⟩, Or.inl ⟨rfl, rfl⟩⟩⟩⟩⟩
          simp (disch := first | assumption | omega) only [e289_0, e289_1, e289_2, e289_5, e289_8, e289_11, e289_12, e289_13, e289_14, e289_15, e289_16, e289_19, e289_22, e289_25, e289_26, e289_27, e289_28, e289_31, e289_32, e289_33, e289_34, e289_35, e289_36, e289_39, e289_40, e289_41, e289_42, e289_45, e289_48, e289_51, e289_54, e289_55, e289_58, e289_59, e289_62, e289_63, e289_64, e289_65, e289_68, e289_69, e289_70, e289_71, e289_74, e289_75, e289_76, e289_79, m289, ↓reduceIte, qg_0, qg_1, qg_2, qg_3, qg_4, qg_5, qg_6, qg_7, qg_8, qg_9, qg_10, qg_11, qg_12, qg_13, not_true_eq_false, not_false_eq_true, Nat.reduceBEq, Bool.false_eq_true, ex1, ex3, ex4, exF, qfit_i, qfit_l, qfit_r, qfit_n, qfit_b0, qfit_b1, qcat_i, qcat_r, qcat_n, qcat_l, qroom_0, qroom_c, List.map_cons, List.map_nil, List.sum_cons, List.sum_nil, Nat.reduceAdd, Nat.reduceMul, Nat.reduceLT, Nat.reduceLeDiff, Nat.reduceEqDiff, Nat.reduceSub, decide_true, true_and, and_true, and_self, if_true, if_false, Option.toList_some, Option.toList_none, List.cons_append, List.nil_append, qsL, qlong, List.length_cons, List.length_nil, iN_L, vM1, vM2, exI, iN_add, iN_mul, iN_le, iN_lt, iN_eq, Nat.le_refl, qfN0, qfN1, bx, iN10, s_in, hb, r1, gM_41, m41, hb2, gM_42, rM_86, vt, tl]
        · obtain ⟨h2, r2, c2⟩ := s_sizeOf (d := d + 1) s1 B1 hi' p1 p2
          refine ⟨h2, _, fun R => ?_, c1'.trans (c2.mono (by decide) (by decide)), Or.inr ⟨i, ⟨hi', rfl⟩, Or.inr ⟨Or.inr rfl, Or.inr ⟨t, ⟨ht, rfl⟩, Or.inr ⟨rfl, rfl⟩⟩⟩⟩⟩
          simp (disch := first | assumption | omega) only [e289_0, e289_1, e289_2, e289_5, e289_8, e289_11, e289_12, e289_13, e289_14, e289_15, e289_16, e289_19, e289_22, e289_25, e289_26, e289_27, e289_28, e289_31, e289_32, e289_33, e289_34, e289_35, e289_36, e289_39, e289_40, e289_41, e289_42, e289_45, e289_48, e289_51, e289_54, e289_55, e289_58, e289_59, e289_62, e289_63, e289_64, e289_65, e289_68, e289_69, e289_70, e289_71, e289_74, e289_75, e289_76, e289_79, m289, ↓reduceIte, qg_0, qg_1, qg_2, qg_3, qg_4, qg_5, qg_6, qg_7, qg_8, qg_9, qg_10, qg_11, qg_12, qg_13, not_true_eq_false, not_false_eq_true, Nat.reduceBEq, Bool.false_eq_true, ex1, ex3, ex4, exF, qfit_i, qfit_l, qfit_r, qfit_n, qfit_b0, qfit_b1, qcat_i, qcat_r, qcat_n, qcat_l, qroom_0, qroom_c, List.map_cons, List.map_nil, List.sum_cons, List.sum_nil, Nat.reduceAdd, Nat.reduceMul, Nat.reduceLT, Nat.reduceLeDiff, Nat.reduceEqDiff, Nat.reduceSub, decide_true, true_and, and_true, and_self, if_true, if_false, Option.toList_some, Option.toList_none, List.cons_append, List.nil_append, qsL, qlong, List.length_cons, List.length_nil, iN_L, vM1, vM2, exI, iN_add, iN_mul, iN_le, iN_lt, iN_eq, Nat.le_refl, qfN0, qfN1, bx, iN10, s_in, hb, r1, gM_41, m41, hb2, gM_42, rM_86, vt, r2]
      · have hb2 : bI ((0 : Int64) ≤ y.toInt64 ∧ y.toInt64 ≤ (iN (pcL bs i).length - iN 1).toInt64) = iN 0 := if_neg (fun w => hy (rn2.mp w))
        refine ⟨h1, -1, fun R => ?_, c1', Or.inr ⟨i, ⟨hi', rfl⟩, Or.inr ⟨hz, Or.inl ⟨hy, rfl⟩⟩⟩⟩
        simp (disch := first | assumption | omega) only [e289_0, e289_1, e289_2, e289_5, e289_8, e289_11, e289_12, e289_13, e289_14, e289_15, e289_16, e289_19, e289_22, e289_25, e289_26, e289_27, e289_28, e289_31, e289_32, e289_33, e289_34, e289_35, e289_36, e289_39, e289_40, e289_41, e289_42, e289_45, e289_48, e289_51, e289_54, e289_55, e289_58, e289_59, e289_62, e289_63, e289_64, e289_65, e289_68, e289_69, e289_70, e289_71, e289_74, e289_75, e289_76, e289_79, m289, ↓reduceIte, qg_0, qg_1, qg_2, qg_3, qg_4, qg_5, qg_6, qg_7, qg_8, qg_9, qg_10, qg_11, qg_12, qg_13, not_true_eq_false, not_false_eq_true, Nat.reduceBEq, Bool.false_eq_true, ex1, ex3, ex4, exF, qfit_i, qfit_l, qfit_r, qfit_n, qfit_b0, qfit_b1, qcat_i, qcat_r, qcat_n, qcat_l, qroom_0, qroom_c, List.map_cons, List.map_nil, List.sum_cons, List.sum_nil, Nat.reduceAdd, Nat.reduceMul, Nat.reduceLT, Nat.reduceLeDiff, Nat.reduceEqDiff, Nat.reduceSub, decide_true, true_and, and_true, and_self, if_true, if_false, Option.toList_some, Option.toList_none, List.cons_append, List.nil_append, qsL, qlong, List.length_cons, List.length_nil, iN_L, vM1, vM2, exI, iN_add, iN_mul, iN_le, iN_lt, iN_eq, Nat.le_refl, qfN0, qfN1, bx, iN10, s_in, hb, r1, gM_41, m41, hb2]
    · have hb : bI ((0 : Int64) ≤ z.toInt64 ∧ z.toInt64 ≤ (1 : Int64)) = iN 0 := if_neg (fun w => hz (rng.mp w))
      refine ⟨h, -1002, fun R => ?_, Ch.refl s, Or.inr ⟨i, ⟨hi', rfl⟩, Or.inl ⟨hz, rfl⟩⟩⟩
      simp (disch := first | assumption | omega) only [e289_0, e289_1, e289_2, e289_5, e289_8, e289_11, e289_12, e289_13, e289_14, e289_15, e289_16, e289_19, e289_22, e289_25, e289_26, e289_27, e289_28, e289_31, e289_32, e289_33, e289_34, e289_35, e289_36, e289_39, e289_40, e289_41, e289_42, e289_45, e289_48, e289_51, e289_54, e289_55, e289_58, e289_59, e289_62, e289_63, e289_64, e289_65, e289_68, e289_69, e289_70, e289_71, e289_74, e289_75, e289_76, e289_79, m289, ↓reduceIte, qg_0, qg_1, qg_2, qg_3, qg_4, qg_5, qg_6, qg_7, qg_8, qg_9, qg_10, qg_11, qg_12, qg_13, not_true_eq_false, not_false_eq_true, Nat.reduceBEq, Bool.false_eq_true, ex1, ex3, ex4, exF, qfit_i, qfit_l, qfit_r, qfit_n, qfit_b0, qfit_b1, qcat_i, qcat_r, qcat_n, qcat_l, qroom_0, qroom_c, List.map_cons, List.map_nil, List.sum_cons, List.sum_nil, Nat.reduceAdd, Nat.reduceMul, Nat.reduceLT, Nat.reduceLeDiff, Nat.reduceEqDiff, Nat.reduceSub, decide_true, true_and, and_true, and_self, if_true, if_false, Option.toList_some, Option.toList_none, List.cons_append, List.nil_append, qsL, qlong, List.length_cons, List.length_nil, iN_L, vM1, vM2, exI, iN_add, iN_mul, iN_le, iN_lt, iN_eq, Nat.le_refl, qfN0, qfN1, bx, iN10, s_in, hb]
  · refine ⟨h, -1001, fun R => ?_, Ch.refl s, Or.inl ⟨hx, rfl⟩⟩
    simp (disch := first | assumption | omega) only [e289_0, e289_1, e289_2, e289_5, e289_8, e289_11, e289_12, e289_13, e289_14, e289_15, e289_16, e289_19, e289_22, e289_25, e289_26, e289_27, e289_28, e289_31, e289_32, e289_33, e289_34, e289_35, e289_36, e289_39, e289_40, e289_41, e289_42, e289_45, e289_48, e289_51, e289_54, e289_55, e289_58, e289_59, e289_62, e289_63, e289_64, e289_65, e289_68, e289_69, e289_70, e289_71, e289_74, e289_75, e289_76, e289_79, m289, ↓reduceIte, qg_0, qg_1, qg_2, qg_3, qg_4, qg_5, qg_6, qg_7, qg_8, qg_9, qg_10, qg_11, qg_12, qg_13, not_true_eq_false, not_false_eq_true, Nat.reduceBEq, Bool.false_eq_true, ex1, ex3, ex4, exF, qfit_i, qfit_l, qfit_r, qfit_n, qfit_b0, qfit_b1, qcat_i, qcat_r, qcat_n, qcat_l, qroom_0, qroom_c, List.map_cons, List.map_nil, List.sum_cons, List.sum_nil, Nat.reduceAdd, Nat.reduceMul, Nat.reduceLT, Nat.reduceLeDiff, Nat.reduceEqDiff, Nat.reduceSub, decide_true, true_and, and_true, and_self, if_true, if_false, Option.toList_some, Option.toList_none, List.cons_append, List.nil_append, qsL, qlong, List.length_cons, List.length_nil, iN_L, vM1, vM2, exI, iN_add, iN_mul, iN_le, iN_lt, iN_eq, Nat.le_refl, qfN0, qfN1, s_isBody0 (d := d + 2) s B hx]
theorem BsM.sc {k : Nat} (B : BsM h bs) (hk : k < bs.length) : hi h 58 k = (bs.getD k b0).2.2 := by
  obtain ⟨o, -, b⟩ := B.2.2 k hk
  obtain ⟨f, S, Q, M, T, O, -, -, -, ⟨-, -, a3⟩, -⟩ := b
  exact a3
/-- the answer of `about` -/
noncomputable def abtR (bs : List bdy) (x y v : Int32) : Prop := (¬ isB bs x ∧ v = -1001) ∨ ∃ i, (i < bs.length ∧ x = iN i) ∧ (((¬ ∃ k, k ≤ 6 ∧ y = iN k) ∧ v = -1002) ∨ (y = iN 0 ∧ v = iN (dmn bs i)) ∨ (y = iN 1 ∧ v = iN (cnr bs i).length) ∨ (y = iN 2 ∧ v = (bs.getD i b0).2.2) ∨ (y = iN 3 ∧ v = bB (smpB bs i)) ∨ (y = iN 4 ∧ v = bB (eachB bs i)) ∨ (y = iN 5 ∧ v = trnR bs i) ∨ (y = iN 6 ∧ v = iN (pcL bs i).length))
set_option maxRecDepth 100000 in
set_option maxHeartbeats 16000000 in
theorem s_about {x y : Int32} (s : ShM h) (B : BsM h bs) (hp : ∀ i, i < bs.length → (pcL bs i).length ≤ 4000) : ∃ h' r, (∀ R, qMC (d + 5) 233 [.ref 55, .int x, .int y] h R ↔ R = (some (.int r), h')) ∧ Ch [75, 76, 77, 78, 79, 86, 87, 88, 89] [25, 28, 41, 43] h h' ∧ abtR bs x y r := by
  have b24 := B.1
  by_cases hx : isB bs x
  · have bx := fun R => s_isBody1 (d := d + 2) (R := R) s B hx
    obtain ⟨i, hi', rfl⟩ := hx
    have r0 : ∀ R, qMC (d + 5) 233 [.ref 55, .int (iN i), .int y] h R ↔ qEv (d + 4) 0 qk_233 13 [some (.ref 55), some (.int (iN i)), some (.int y)] [.int y] h R := by
      intro R
      simp (disch := first | assumption | omega) only [e233_0, e233_1, e233_2, e233_5, e233_8, e233_11, e233_12, e233_56, e233_57, e233_60, e233_61, e233_62, e233_63, e233_64, e233_67, e233_68, e233_69, e233_70, e233_71, e233_74, e233_75, e233_76, e233_77, e233_78, e233_79, e233_82, e233_85, e233_86, e233_89, e233_90, e233_91, e233_92, e233_93, e233_96, e233_99, e233_100, e233_103, e233_104, e233_105, e233_106, e233_107, e233_110, e233_111, e233_112, e233_113, e233_116, e233_117, e233_120, m233, ↓reduceIte, qg_0, qg_1, qg_2, qg_3, qg_4, qg_5, qg_6, qg_7, qg_8, qg_9, qg_10, qg_11, qg_12, qg_13, not_true_eq_false, not_false_eq_true, Nat.reduceBEq, Bool.false_eq_true, ex1, ex3, ex4, exF, qfit_i, qfit_l, qfit_r, qfit_n, qfit_b0, qfit_b1, qcat_i, qcat_r, qcat_n, qcat_l, qroom_0, qroom_c, List.map_cons, List.map_nil, List.sum_cons, List.sum_nil, Nat.reduceAdd, Nat.reduceMul, Nat.reduceLT, Nat.reduceLeDiff, Nat.reduceEqDiff, Nat.reduceSub, decide_true, true_and, and_true, and_self, if_true, if_false, Option.toList_some, Option.toList_none, List.cons_append, List.nil_append, qsL, qlong, List.length_cons, List.length_nil, iN_L, vM1, vM2, exI, iN_add, iN_mul, iN_le, iN_lt, iN_eq, Nat.le_refl, qfN0, qfN1, bx, iN10]
    have no : ∀ r, (∀ R, qEv (d + 4) 0 qk_233 13 [some (.ref 55), some (.int (iN i)), some (.int y)] [.int y] h R ↔ R = (some (.int r), h)) → _ → ∃ h' r, (∀ R, qMC (d + 5) 233 [.ref 55, .int (iN i), .int y] h R ↔ R = (some (.int r), h')) ∧ Ch [75, 76, 77, 78, 79, 86, 87, 88, 89] [25, 28, 41, 43] h h' ∧ abtR bs (iN i) y r := fun r h1 h2 => ⟨h, r, fun R => (r0 R).trans (h1 R), Ch.refl s, Or.inr ⟨i, ⟨hi', rfl⟩, h2⟩⟩
    by_cases hy : ∃ k, k ≤ 6 ∧ y = iN k
    · obtain ⟨k, hk, rfl⟩ := hy
      rcases le6 hk with rfl | rfl | rfl | rfl | rfl | rfl | rfl
      · refine no (iN (dmn bs i)) (fun R => ?_) (Or.inr (Or.inl ⟨rfl, rfl⟩))
        have di := (B.dim hi').1
        rw [e233_13]
        refine (sw_at (o := 43) (by decide) rfl).trans ?_
        rw [show qtgt 13 43 = 56 from rfl]
        simp (disch := first | assumption | omega) only [e233_0, e233_1, e233_2, e233_5, e233_8, e233_11, e233_12, e233_56, e233_57, e233_60, e233_61, e233_62, e233_63, e233_64, e233_67, e233_68, e233_69, e233_70, e233_71, e233_74, e233_75, e233_76, e233_77, e233_78, e233_79, e233_82, e233_85, e233_86, e233_89, e233_90, e233_91, e233_92, e233_93, e233_96, e233_99, e233_100, e233_103, e233_104, e233_105, e233_106, e233_107, e233_110, e233_111, e233_112, e233_113, e233_116, e233_117, e233_120, m233, ↓reduceIte, qg_0, qg_1, qg_2, qg_3, qg_4, qg_5, qg_6, qg_7, qg_8, qg_9, qg_10, qg_11, qg_12, qg_13, not_true_eq_false, not_false_eq_true, Nat.reduceBEq, Bool.false_eq_true, ex1, ex3, ex4, exF, qfit_i, qfit_l, qfit_r, qfit_n, qfit_b0, qfit_b1, qcat_i, qcat_r, qcat_n, qcat_l, qroom_0, qroom_c, List.map_cons, List.map_nil, List.sum_cons, List.sum_nil, Nat.reduceAdd, Nat.reduceMul, Nat.reduceLT, Nat.reduceLeDiff, Nat.reduceEqDiff, Nat.reduceSub, decide_true, true_and, and_true, and_self, if_true, if_false, Option.toList_some, Option.toList_none, List.cons_append, List.nil_append, qsL, qlong, List.length_cons, List.length_nil, iN_L, vM1, vM2, exI, iN_add, iN_mul, iN_le, iN_lt, iN_eq, Nat.le_refl, qfN0, qfN1, gM_1, rM_56, di]
      · refine no (iN (cnr bs i).length) (fun R => ?_) (Or.inr (Or.inr (Or.inl ⟨rfl, rfl⟩)))
        have di := (B.corn hi').1
        rw [e233_13]
        refine (sw_at (o := 50) (by decide) rfl).trans ?_
        rw [show qtgt 13 50 = 63 from rfl]
        simp (disch := first | assumption | omega) only [e233_0, e233_1, e233_2, e233_5, e233_8, e233_11, e233_12, e233_56, e233_57, e233_60, e233_61, e233_62, e233_63, e233_64, e233_67, e233_68, e233_69, e233_70, e233_71, e233_74, e233_75, e233_76, e233_77, e233_78, e233_79, e233_82, e233_85, e233_86, e233_89, e233_90, e233_91, e233_92, e233_93, e233_96, e233_99, e233_100, e233_103, e233_104, e233_105, e233_106, e233_107, e233_110, e233_111, e233_112, e233_113, e233_116, e233_117, e233_120, m233, ↓reduceIte, qg_0, qg_1, qg_2, qg_3, qg_4, qg_5, qg_6, qg_7, qg_8, qg_9, qg_10, qg_11, qg_12, qg_13, not_true_eq_false, not_false_eq_true, Nat.reduceBEq, Bool.false_eq_true, ex1, ex3, ex4, exF, qfit_i, qfit_l, qfit_r, qfit_n, qfit_b0, qfit_b1, qcat_i, qcat_r, qcat_n, qcat_l, qroom_0, qroom_c, List.map_cons, List.map_nil, List.sum_cons, List.sum_nil, Nat.reduceAdd, Nat.reduceMul, Nat.reduceLT, Nat.reduceLeDiff, Nat.reduceEqDiff, Nat.reduceSub, decide_true, true_and, and_true, and_self, if_true, if_false, Option.toList_some, Option.toList_none, List.cons_append, List.nil_append, qsL, qlong, List.length_cons, List.length_nil, iN_L, vM1, vM2, exI, iN_add, iN_mul, iN_le, iN_lt, iN_eq, Nat.le_refl, qfN0, qfN1, gM_2, rM_57, di]
      · refine no (bs.getD i b0).2.2 (fun R => ?_) (Or.inr (Or.inr (Or.inr (Or.inl ⟨rfl, rfl⟩))))
        have di := B.sc hi'
        rw [e233_13]
        refine (sw_at (o := 57) (by decide) rfl).trans ?_
        rw [show qtgt 13 57 = 70 from rfl]
        simp (disch := first | assumption | omega) only [e233_0, e233_1, e233_2, e233_5, e233_8, e233_11, e233_12, e233_56, e233_57, e233_60, e233_61, e233_62, e233_63, e233_64, e233_67, e233_68, e233_69, e233_70, e233_71, e233_74, e233_75, e233_76, e233_77, e233_78, e233_79, e233_82, e233_85, e233_86, e233_89, e233_90, e233_91, e233_92, e233_93, e233_96, e233_99, e233_100, e233_103, e233_104, e233_105, e233_106, e233_107, e233_110, e233_111, e233_112, e233_113, e233_116, e233_117, e233_120, m233, ↓reduceIte, qg_0, qg_1, qg_2, qg_3, qg_4, qg_5, qg_6, qg_7, qg_8, qg_9, qg_10, qg_11, qg_12, qg_13, not_true_eq_false, not_false_eq_true, Nat.reduceBEq, Bool.false_eq_true, ex1, ex3, ex4, exF, qfit_i, qfit_l, qfit_r, qfit_n, qfit_b0, qfit_b1, qcat_i, qcat_r, qcat_n, qcat_l, qroom_0, qroom_c, List.map_cons, List.map_nil, List.sum_cons, List.sum_nil, Nat.reduceAdd, Nat.reduceMul, Nat.reduceLT, Nat.reduceLeDiff, Nat.reduceEqDiff, Nat.reduceSub, decide_true, true_and, and_true, and_self, if_true, if_false, Option.toList_some, Option.toList_none, List.cons_append, List.nil_append, qsL, qlong, List.length_cons, List.length_nil, iN_L, vM1, vM2, exI, iN_add, iN_mul, iN_le, iN_lt, iN_eq, Nat.le_refl, qfN0, qfN1, gM_3, rM_58, di]
      · refine no (bB (smpB bs i)) (fun R => ?_) (Or.inr (Or.inr (Or.inr (Or.inr (Or.inl ⟨rfl, rfl⟩)))))
        have sp : ∀ R, qMC (d + 4) 230 [.ref 55, .int (iN i)] h R ↔ R = (some (.int (bB (smpB bs i))), h) := fun R => s_isSimpleFaced s B hi'
        rw [e233_13]
        refine (sw_at (o := 64) (by decide) rfl).trans ?_
        rw [show qtgt 13 64 = 77 from rfl]
        cases q : smpB bs i with
        | true =>
          rw [q] at sp
          rw [bN_t] at sp ⊢
          simp (disch := first | assumption | omega) only [e233_0, e233_1, e233_2, e233_5, e233_8, e233_11, e233_12, e233_56, e233_57, e233_60, e233_61, e233_62, e233_63, e233_64, e233_67, e233_68, e233_69, e233_70, e233_71, e233_74, e233_75, e233_76, e233_77, e233_78, e233_79, e233_82, e233_85, e233_86, e233_89, e233_90, e233_91, e233_92, e233_93, e233_96, e233_99, e233_100, e233_103, e233_104, e233_105, e233_106, e233_107, e233_110, e233_111, e233_112, e233_113, e233_116, e233_117, e233_120, m233, ↓reduceIte, qg_0, qg_1, qg_2, qg_3, qg_4, qg_5, qg_6, qg_7, qg_8, qg_9, qg_10, qg_11, qg_12, qg_13, not_true_eq_false, not_false_eq_true, Nat.reduceBEq, Bool.false_eq_true, ex1, ex3, ex4, exF, qfit_i, qfit_l, qfit_r, qfit_n, qfit_b0, qfit_b1, qcat_i, qcat_r, qcat_n, qcat_l, qroom_0, qroom_c, List.map_cons, List.map_nil, List.sum_cons, List.sum_nil, Nat.reduceAdd, Nat.reduceMul, Nat.reduceLT, Nat.reduceLeDiff, Nat.reduceEqDiff, Nat.reduceSub, decide_true, true_and, and_true, and_self, if_true, if_false, Option.toList_some, Option.toList_none, List.cons_append, List.nil_append, qsL, qlong, List.length_cons, List.length_nil, iN_L, vM1, vM2, exI, iN_add, iN_mul, iN_le, iN_lt, iN_eq, Nat.le_refl, qfN0, qfN1, sp, iN10]
        | false =>
          rw [q] at sp
          rw [bN_f] at sp ⊢
          simp (disch := first | assumption | omega) only [e233_0, e233_1, e233_2, e233_5, e233_8, e233_11, e233_12, e233_56, e233_57, e233_60, e233_61, e233_62, e233_63, e233_64, e233_67, e233_68, e233_69, e233_70, e233_71, e233_74, e233_75, e233_76, e233_77, e233_78, e233_79, e233_82, e233_85, e233_86, e233_89, e233_90, e233_91, e233_92, e233_93, e233_96, e233_99, e233_100, e233_103, e233_104, e233_105, e233_106, e233_107, e233_110, e233_111, e233_112, e233_113, e233_116, e233_117, e233_120, m233, ↓reduceIte, qg_0, qg_1, qg_2, qg_3, qg_4, qg_5, qg_6, qg_7, qg_8, qg_9, qg_10, qg_11, qg_12, qg_13, not_true_eq_false, not_false_eq_true, Nat.reduceBEq, Bool.false_eq_true, ex1, ex3, ex4, exF, qfit_i, qfit_l, qfit_r, qfit_n, qfit_b0, qfit_b1, qcat_i, qcat_r, qcat_n, qcat_l, qroom_0, qroom_c, List.map_cons, List.map_nil, List.sum_cons, List.sum_nil, Nat.reduceAdd, Nat.reduceMul, Nat.reduceLT, Nat.reduceLeDiff, Nat.reduceEqDiff, Nat.reduceSub, decide_true, true_and, and_true, and_self, if_true, if_false, Option.toList_some, Option.toList_none, List.cons_append, List.nil_append, qsL, qlong, List.length_cons, List.length_nil, iN_L, vM1, vM2, exI, iN_add, iN_mul, iN_le, iN_lt, iN_eq, Nat.le_refl, qfN0, qfN1, sp]
      · refine no (bB (eachB bs i)) (fun R => ?_) (Or.inr (Or.inr (Or.inr (Or.inr (Or.inr (Or.inl ⟨rfl, rfl⟩))))))
        have sp : ∀ R, qMC (d + 4) 232 [.ref 55, .int (iN i)] h R ↔ R = (some (.int (bB (eachB bs i))), h) := fun R => s_isEach s B hi'
        rw [e233_13]
        refine (sw_at (o := 78) (by decide) rfl).trans ?_
        rw [show qtgt 13 78 = 91 from rfl]
        cases q : eachB bs i with
        | true =>
          rw [q] at sp
          rw [bN_t] at sp ⊢
          simp (disch := first | assumption | omega) only [e233_0, e233_1, e233_2, e233_5, e233_8, e233_11, e233_12, e233_56, e233_57, e233_60, e233_61, e233_62, e233_63, e233_64, e233_67, e233_68, e233_69, e233_70, e233_71, e233_74, e233_75, e233_76, e233_77, e233_78, e233_79, e233_82, e233_85, e233_86, e233_89, e233_90, e233_91, e233_92, e233_93, e233_96, e233_99, e233_100, e233_103, e233_104, e233_105, e233_106, e233_107, e233_110, e233_111, e233_112, e233_113, e233_116, e233_117, e233_120, m233, ↓reduceIte, qg_0, qg_1, qg_2, qg_3, qg_4, qg_5, qg_6, qg_7, qg_8, qg_9, qg_10, qg_11, qg_12, qg_13, not_true_eq_false, not_false_eq_true, Nat.reduceBEq, Bool.false_eq_true, ex1, ex3, ex4, exF, qfit_i, qfit_l, qfit_r, qfit_n, qfit_b0, qfit_b1, qcat_i, qcat_r, qcat_n, qcat_l, qroom_0, qroom_c, List.map_cons, List.map_nil, List.sum_cons, List.sum_nil, Nat.reduceAdd, Nat.reduceMul, Nat.reduceLT, Nat.reduceLeDiff, Nat.reduceEqDiff, Nat.reduceSub, decide_true, true_and, and_true, and_self, if_true, if_false, Option.toList_some, Option.toList_none, List.cons_append, List.nil_append, qsL, qlong, List.length_cons, List.length_nil, iN_L, vM1, vM2, exI, iN_add, iN_mul, iN_le, iN_lt, iN_eq, Nat.le_refl, qfN0, qfN1, sp, iN10]
        | false =>
          rw [q] at sp
          rw [bN_f] at sp ⊢
          simp (disch := first | assumption | omega) only [e233_0, e233_1, e233_2, e233_5, e233_8, e233_11, e233_12, e233_56, e233_57, e233_60, e233_61, e233_62, e233_63, e233_64, e233_67, e233_68, e233_69, e233_70, e233_71, e233_74, e233_75, e233_76, e233_77, e233_78, e233_79, e233_82, e233_85, e233_86, e233_89, e233_90, e233_91, e233_92, e233_93, e233_96, e233_99, e233_100, e233_103, e233_104, e233_105, e233_106, e233_107, e233_110, e233_111, e233_112, e233_113, e233_116, e233_117, e233_120, m233, ↓reduceIte, qg_0, qg_1, qg_2, qg_3, qg_4, qg_5, qg_6, qg_7, qg_8, qg_9, qg_10, qg_11, qg_12, qg_13, not_true_eq_false, not_false_eq_true, Nat.reduceBEq, Bool.false_eq_true, ex1, ex3, ex4, exF, qfit_i, qfit_l, qfit_r, qfit_n, qfit_b0, qfit_b1, qcat_i, qcat_r, qcat_n, qcat_l, qroom_0, qroom_c, List.map_cons, List.map_nil, List.sum_cons, List.sum_nil, Nat.reduceAdd, Nat.reduceMul, Nat.reduceLT, Nat.reduceLeDiff, Nat.reduceEqDiff, Nat.reduceSub, decide_true, true_and, and_true, and_self, if_true, if_false, Option.toList_some, Option.toList_none, List.cons_append, List.nil_append, qsL, qlong, List.length_cons, List.length_nil, iN_L, vM1, vM2, exI, iN_add, iN_mul, iN_le, iN_lt, iN_eq, Nat.le_refl, qfN0, qfN1, sp]
      · obtain ⟨h1, r1, c1⟩ := s_turnsOf (d := d) s B hi'
        refine ⟨h1, trnR bs i, fun R => (r0 R).trans ?_, c1.mono (by decide) (by decide), Or.inr ⟨i, ⟨hi', rfl⟩, Or.inr (Or.inr (Or.inr (Or.inr (Or.inr (Or.inr (Or.inl ⟨rfl, rfl⟩))))))⟩⟩
        rw [e233_13]
        refine (sw_at (o := 92) (by decide) rfl).trans ?_
        rw [show qtgt 13 92 = 105 from rfl]
        simp (disch := first | assumption | omega) only [e233_0, e233_1, e233_2, e233_5, e233_8, e233_11, e233_12, e233_56, e233_57, e233_60, e233_61, e233_62, e233_63, e233_64, e233_67, e233_68, e233_69, e233_70, e233_71, e233_74, e233_75, e233_76, e233_77, e233_78, e233_79, e233_82, e233_85, e233_86, e233_89, e233_90, e233_91, e233_92, e233_93, e233_96, e233_99, e233_100, e233_103, e233_104, e233_105, e233_106, e233_107, e233_110, e233_111, e233_112, e233_113, e233_116, e233_117, e233_120, m233, ↓reduceIte, qg_0, qg_1, qg_2, qg_3, qg_4, qg_5, qg_6, qg_7, qg_8, qg_9, qg_10, qg_11, qg_12, qg_13, not_true_eq_false, not_false_eq_true, Nat.reduceBEq, Bool.false_eq_true, ex1, ex3, ex4, exF, qfit_i, qfit_l, qfit_r, qfit_n, qfit_b0, qfit_b1, qcat_i, qcat_r, qcat_n, qcat_l, qroom_0, qroom_c, List.map_cons, List.map_nil, List.sum_cons, List.sum_nil, Nat.reduceAdd, Nat.reduceMul, Nat.reduceLT, Nat.reduceLeDiff, Nat.reduceEqDiff, Nat.reduceSub, decide_true, true_and, and_true, and_self, if_true, if_false, Option.toList_some, Option.toList_none, List.cons_append, List.nil_append, qsL, qlong, List.length_cons, List.length_nil, iN_L, vM1, vM2, exI, iN_add, iN_mul, iN_le, iN_lt, iN_eq, Nat.le_refl, qfN0, qfN1, r1]
      · obtain ⟨h1, r1, c1, -, -⟩ := s_findPieces (d := d) s B hi' (hp i hi')
        refine ⟨h1, iN (pcL bs i).length, fun R => (r0 R).trans ?_, c1.mono (by decide) (by decide), Or.inr ⟨i, ⟨hi', rfl⟩, Or.inr (Or.inr (Or.inr (Or.inr (Or.inr (Or.inr (Or.inr ⟨rfl, rfl⟩))))))⟩⟩
        rw [e233_13]
        refine (sw_at (o := 98) (by decide) rfl).trans ?_
        rw [show qtgt 13 98 = 111 from rfl]
        simp (disch := first | assumption | omega) only [e233_0, e233_1, e233_2, e233_5, e233_8, e233_11, e233_12, e233_56, e233_57, e233_60, e233_61, e233_62, e233_63, e233_64, e233_67, e233_68, e233_69, e233_70, e233_71, e233_74, e233_75, e233_76, e233_77, e233_78, e233_79, e233_82, e233_85, e233_86, e233_89, e233_90, e233_91, e233_92, e233_93, e233_96, e233_99, e233_100, e233_103, e233_104, e233_105, e233_106, e233_107, e233_110, e233_111, e233_112, e233_113, e233_116, e233_117, e233_120, m233, ↓reduceIte, qg_0, qg_1, qg_2, qg_3, qg_4, qg_5, qg_6, qg_7, qg_8, qg_9, qg_10, qg_11, qg_12, qg_13, not_true_eq_false, not_false_eq_true, Nat.reduceBEq, Bool.false_eq_true, ex1, ex3, ex4, exF, qfit_i, qfit_l, qfit_r, qfit_n, qfit_b0, qfit_b1, qcat_i, qcat_r, qcat_n, qcat_l, qroom_0, qroom_c, List.map_cons, List.map_nil, List.sum_cons, List.sum_nil, Nat.reduceAdd, Nat.reduceMul, Nat.reduceLT, Nat.reduceLeDiff, Nat.reduceEqDiff, Nat.reduceSub, decide_true, true_and, and_true, and_self, if_true, if_false, Option.toList_some, Option.toList_none, List.cons_append, List.nil_append, qsL, qlong, List.length_cons, List.length_nil, iN_L, vM1, vM2, exI, iN_add, iN_mul, iN_le, iN_lt, iN_eq, Nat.le_refl, qfN0, qfN1, r1]
    · refine no (-1002) (fun R => ?_) (Or.inl ⟨hy, rfl⟩)
      rw [e233_13]
      refine (sw_out hy).trans ?_
      simp (disch := first | assumption | omega) only [e233_0, e233_1, e233_2, e233_5, e233_8, e233_11, e233_12, e233_56, e233_57, e233_60, e233_61, e233_62, e233_63, e233_64, e233_67, e233_68, e233_69, e233_70, e233_71, e233_74, e233_75, e233_76, e233_77, e233_78, e233_79, e233_82, e233_85, e233_86, e233_89, e233_90, e233_91, e233_92, e233_93, e233_96, e233_99, e233_100, e233_103, e233_104, e233_105, e233_106, e233_107, e233_110, e233_111, e233_112, e233_113, e233_116, e233_117, e233_120, m233, ↓reduceIte, qg_0, qg_1, qg_2, qg_3, qg_4, qg_5, qg_6, qg_7, qg_8, qg_9, qg_10, qg_11, qg_12, qg_13, not_true_eq_false, not_false_eq_true, Nat.reduceBEq, Bool.false_eq_true, ex1, ex3, ex4, exF, qfit_i, qfit_l, qfit_r, qfit_n, qfit_b0, qfit_b1, qcat_i, qcat_r, qcat_n, qcat_l, qroom_0, qroom_c, List.map_cons, List.map_nil, List.sum_cons, List.sum_nil, Nat.reduceAdd, Nat.reduceMul, Nat.reduceLT, Nat.reduceLeDiff, Nat.reduceEqDiff, Nat.reduceSub, decide_true, true_and, and_true, and_self, if_true, if_false, Option.toList_some, Option.toList_none, List.cons_append, List.nil_append, qsL, qlong, List.length_cons, List.length_nil, iN_L, vM1, vM2, exI, iN_add, iN_mul, iN_le, iN_lt, iN_eq, Nat.le_refl, qfN0, qfN1]
  · refine ⟨h, -1001, fun R => ?_, Ch.refl s, Or.inl ⟨hx, rfl⟩⟩
    simp (disch := first | assumption | omega) only [e233_0, e233_1, e233_2, e233_5, e233_8, e233_11, e233_12, e233_56, e233_57, e233_60, e233_61, e233_62, e233_63, e233_64, e233_67, e233_68, e233_69, e233_70, e233_71, e233_74, e233_75, e233_76, e233_77, e233_78, e233_79, e233_82, e233_85, e233_86, e233_89, e233_90, e233_91, e233_92, e233_93, e233_96, e233_99, e233_100, e233_103, e233_104, e233_105, e233_106, e233_107, e233_110, e233_111, e233_112, e233_113, e233_116, e233_117, e233_120, m233, ↓reduceIte, qg_0, qg_1, qg_2, qg_3, qg_4, qg_5, qg_6, qg_7, qg_8, qg_9, qg_10, qg_11, qg_12, qg_13, not_true_eq_false, not_false_eq_true, Nat.reduceBEq, Bool.false_eq_true, ex1, ex3, ex4, exF, qfit_i, qfit_l, qfit_r, qfit_n, qfit_b0, qfit_b1, qcat_i, qcat_r, qcat_n, qcat_l, qroom_0, qroom_c, List.map_cons, List.map_nil, List.sum_cons, List.sum_nil, Nat.reduceAdd, Nat.reduceMul, Nat.reduceLT, Nat.reduceLeDiff, Nat.reduceEqDiff, Nat.reduceSub, decide_true, true_and, and_true, and_self, if_true, if_false, Option.toList_some, Option.toList_none, List.cons_append, List.nil_append, qsL, qlong, List.length_cons, List.length_nil, iN_L, vM1, vM2, exI, iN_add, iN_mul, iN_le, iN_lt, iN_eq, Nat.le_refl, qfN0, qfN1, s_isBody0 (d := d + 2) s B hx]
end SIZE2

/-! ===== THE CLASS: walk, far ===== -/
section XWALK2
variable {d : Nat} {h : qH} {bs : List bdy} {sa : Nat → Nat} {R : qRes}
theorem BsX.conn {i : Nat} (X : BsX h bs sa) (hi' : i < bs.length) : cnA (adjB (cel bs i 1)) (cnr bs i).length := by
  obtain ⟨⟨ok, so⟩, -⟩ := X.2.2.2 i hi'
  obtain ⟨m, S, G, b⟩ := bdG_ex ok so
  have hl : (cnr bs i).length = ncr (bs.getD i b0).1 (bs.getD i b0).2.1 := crn_len _ _
  intro R a ha hR hcl x hx
  rw [hl] at ha hx hcl
  have h16 := b.n16
  have n16 : ncr (bs.getD i b0).1 (bs.getD i b0).2.1 ≤ 16 := h16
  exact b.conn ok ha hR (fun c u hc hu hne hRc hE => hcl c u hc hu hRc (adjB_iff.mpr ⟨cls_mem.mpr ⟨pair_lt (by omega) (by omega), hE⟩, fun z => hne z.symm⟩)) hx
theorem rch_mono {adj : Nat → Nat → Bool} {n a b t : Nat} (h0 : rch adj n a t b = true) : ∀ k, t ≤ k → rch adj n a k b = true
  | 0, hk => by rw [show t = 0 by omega] at h0; exact h0
  | k + 1, hk => by
    rcases Nat.lt_or_ge k t with z | z
    · rw [show k + 1 = t by omega]; exact h0
    · rw [rch, rch_mono h0 k z]; rfl
theorem wo_pow {b n : Nat} {r : Nat → Bool} (hb : b < n) : wo (2 ^ b) (mask r n) = 0 ↔ r b = true := by
  constructor
  · intro z
    have := wo_bit (2 ^ b) (mask r n) b
    rw [z, Nat.zero_testBit, Nat.testBit_two_pow_self, mask_bit, decide_eq_true hb, Bool.true_and] at this
    cases e : r b with
    | true => rfl
    | false => rw [e] at this; cases this
  · intro z
    apply Classical.byContradiction
    intro w
    obtain ⟨c, c1, c2⟩ := wo_some.mp w
    rw [Nat.testBit_two_pow] at c1
    have e := of_decide_eq_true c1
    rw [← e, mask_bit, decide_eq_true hb, z] at c2
    cases c2
theorem wo_all {n : Nat} {r : Nat → Bool} : wo (2 ^ n - 1) (mask r n) = 0 ↔ ∀ b, b < n → r b = true := by
  constructor
  · intro z b hb
    have := wo_bit (2 ^ n - 1) (mask r n) b
    rw [z, Nat.zero_testBit, Nat.testBit_two_pow_sub_one, decide_eq_true hb, mask_bit, decide_eq_true hb, Bool.true_and] at this
    cases e : r b with
    | true => rfl
    | false => rw [e] at this; cases this
  · intro z
    apply Classical.byContradiction
    intro w
    obtain ⟨c, c1, c2⟩ := wo_some.mp w
    rw [Nat.testBit_two_pow_sub_one] at c1
    have hc := of_decide_eq_true c1
    rw [mask_bit, decide_eq_true hc, z c hc] at c2
    cases c2
theorem rmx_ge {m0 : Nat} {f : Nat → Nat} : ∀ n, m0 ≤ rmx m0 f n ∧ (∀ k, k < n → f k ≤ rmx m0 f n) ∧ (rmx m0 f n = m0 ∨ ∃ k, k < n ∧ rmx m0 f n = f k)
  | 0 => ⟨Nat.le_refl _, fun k hk => absurd hk (Nat.not_lt_zero k), Or.inl rfl⟩
  | n + 1 => by
    obtain ⟨h1, h2, h3⟩ := rmx_ge (m0 := m0) (f := f) n
    rw [rmx]
    by_cases q : rmx m0 f n < f n
    · rw [if_pos q]
      refine ⟨by omega, fun k hk => ?_, Or.inr ⟨n, by omega, rfl⟩⟩
      rcases Nat.lt_or_ge k n with z | z
      · have := h2 k z; omega
      · rw [show k = n by omega]; exact Nat.le_refl _
    · rw [if_neg q]
      refine ⟨h1, fun k hk => ?_, ?_⟩
      · rcases Nat.lt_or_ge k n with z | z
        · exact h2 k z
        · rw [show k = n by omega]; omega
      · rcases h3 with z | ⟨k, hk, z⟩
        · exact Or.inl z
        · exact Or.inr ⟨k, by omega, z⟩
/-- when all are come to: as far as the farthest -/
theorem far_row {adj : Nat → Nat → Bool} {n a m0 : Nat} (hc : cnA adj n) (ha : a < n) : ∃ t, t ≤ n ∧ wo (2 ^ n - 1) (mask (rch adj n a t) n) = 0 ∧ (∀ k, k < t → wo (2 ^ n - 1) (mask (rch adj n a k) n) ≠ 0) ∧ rmx m0 (dist adj n a) n = if m0 < t then t else m0 := by
  obtain ⟨t, t1, t2, t3⟩ := least (p := fun t => wo (2 ^ n - 1) (mask (rch adj n a t) n) = 0) (n := n) ⟨n, Nat.le_refl _, wo_all.mpr fun b hb => by
    obtain ⟨k, k1, k2⟩ := rch_all hc ha hb
    exact rch_mono k2 n k1⟩
  refine ⟨t, t1, t2, t3, ?_⟩
  obtain ⟨g1, g2, g3⟩ := rmx_ge (m0 := m0) (f := dist adj n a) n
  have dl : ∀ b, b < n → dist adj n a b ≤ t := fun b hb => by
    obtain ⟨k, k1, k2, k3⟩ := least (rch_all hc ha hb)
    rw [dist_eq ⟨k1, k2, k3⟩]
    apply Classical.byContradiction
    intro z
    exact k3 t (by omega) (wo_all.mp t2 b hb)
  have dg : 0 < t → ∃ b, b < n ∧ t ≤ dist adj n a b := fun h0 => by
    apply Classical.byContradiction
    intro z
    refine t3 (t - 1) (by omega) (wo_all.mpr fun b hb => ?_)
    obtain ⟨k, k1, k2, k3⟩ := least (rch_all hc ha hb)
    have e := dist_eq ⟨k1, k2, k3⟩
    have : ¬ t ≤ dist adj n a b := fun y => z ⟨b, hb, y⟩
    exact rch_mono k2 (t - 1) (by omega)
  by_cases q : m0 < t
  · rw [if_pos q]
    obtain ⟨b, b1, b2⟩ := dg (by omega)
    have := g2 b b1
    rcases g3 with z | ⟨k, k1, z⟩
    · omega
    · have := dl k k1
      omega
  · rw [if_neg q]
    rcases g3 with z | ⟨k, k1, z⟩
    · exact z
    · have := dl k k1
      omega
set_option maxRecDepth 100000 in
theorem x_max {a b : Nat} (ha : a < 2147483648) (hb : b < 2147483648) : qMC (d + 1) 312 [.int (iN a), .int (iN b)] h R ↔ R = (some (.int (iN (if a < b then b else a))), h) := by
  by_cases q : a < b
  · rw [if_pos q]
    simp (disch := first | assumption | omega) only [e312_0, e312_1, e312_2, e312_5, e312_6, e312_9, e312_10, m312, ↓reduceIte, qg_0, qg_1, qg_2, qg_3, qg_4, qg_5, qg_6, qg_7, qg_8, qg_9, qg_10, qg_11, qg_12, qg_13, not_true_eq_false, not_false_eq_true, Nat.reduceBEq, Bool.false_eq_true, ex1, ex3, ex4, exF, qfit_i, qfit_l, qfit_r, qfit_n, qfit_b0, qfit_b1, qcat_i, qcat_r, qcat_n, qcat_l, qroom_0, qroom_c, List.map_cons, List.map_nil, List.sum_cons, List.sum_nil, Nat.reduceAdd, Nat.reduceMul, Nat.reduceLT, Nat.reduceLeDiff, Nat.reduceEqDiff, Nat.reduceSub, decide_true, true_and, and_true, and_self, if_true, if_false, Option.toList_some, Option.toList_none, List.cons_append, List.nil_append, qsL, qlong, List.length_cons, List.length_nil, iN_L, exI, iN_add, iN_mul, iN_le, iN_lt, iN_eq, Nat.le_refl, qfN0, qfN1, uX_16, vX_16, uX_19, vX_19, uX_27, vX_27, uX_30, vX_30, uX_39, vX_39, uX_41, vX_41, uX_43, vX_43, uX_46, vX_46, uX_50, vX_50, uX_53, vX_53, q]
  · rw [if_neg q]
    simp (disch := first | assumption | omega) only [e312_0, e312_1, e312_2, e312_5, e312_6, e312_9, e312_10, m312, ↓reduceIte, qg_0, qg_1, qg_2, qg_3, qg_4, qg_5, qg_6, qg_7, qg_8, qg_9, qg_10, qg_11, qg_12, qg_13, not_true_eq_false, not_false_eq_true, Nat.reduceBEq, Bool.false_eq_true, ex1, ex3, ex4, exF, qfit_i, qfit_l, qfit_r, qfit_n, qfit_b0, qfit_b1, qcat_i, qcat_r, qcat_n, qcat_l, qroom_0, qroom_c, List.map_cons, List.map_nil, List.sum_cons, List.sum_nil, Nat.reduceAdd, Nat.reduceMul, Nat.reduceLT, Nat.reduceLeDiff, Nat.reduceEqDiff, Nat.reduceSub, decide_true, true_and, and_true, and_self, if_true, if_false, Option.toList_some, Option.toList_none, List.cons_append, List.nil_append, qsL, qlong, List.length_cons, List.length_nil, iN_L, exI, iN_add, iN_mul, iN_le, iN_lt, iN_eq, Nat.le_refl, qfN0, qfN1, uX_16, vX_16, uX_19, vX_19, uX_27, vX_27, uX_30, vX_30, uX_39, vX_39, uX_41, vX_41, uX_43, vX_43, uX_46, vX_46, uX_50, vX_50, uX_53, vX_53, q]
/-- two corners of a body are not both there -/
theorem no_two {x y z : Int32} (b24 : bs.length ≤ 24) (hn : ¬ (isC bs x y ∧ isC bs x z)) : ¬ isB bs x ∨ ∃ i, (i < bs.length ∧ x = iN i) ∧ ((¬ ∃ c, c < (cnr bs i).length ∧ y = iN c) ∨ ((∃ c, c < (cnr bs i).length ∧ y = iN c) ∧ ¬ ∃ c, c < (cnr bs i).length ∧ z = iN c)) := by
  by_cases hb : isB bs x
  · obtain ⟨i, hi', rfl⟩ := id hb
    refine Or.inr ⟨i, ⟨hi', rfl⟩, ?_⟩
    rw [isC_at b24 hi' rfl, isC_at b24 hi' rfl] at hn
    by_cases hy : ∃ c, c < (cnr bs i).length ∧ y = iN c
    · exact Or.inr ⟨hy, fun z => hn ⟨hy, z⟩⟩
    · exact Or.inl hy
  · exact Or.inl hb
set_option maxRecDepth 100000 in
set_option maxHeartbeats 16000000 in
theorem x_walk {x y z v : Int32} (s : ShX h) (X : BsX h bs sa) (hv : wlkR bs x y z v) : qMC (d + 4) 159 [.ref 16, .int x, .int y, .int z] h R ↔ R = (some (.int v), h) := by
  rcases hv with ⟨hn, rfl⟩ | ⟨i, a, b, ⟨hi', rfl⟩, ⟨ha, rfl⟩, ⟨hb, rfl⟩, rfl⟩
  · rcases no_two X.1 hn with hb | ⟨i, ⟨hi', rfl⟩, hy⟩
    · have b : ∀ R, qMC (d + 3) 179 [.ref 16, .int x] h R ↔ R = (some .null, h) := fun R => x_bodyAt0 s X hb
      simp (disch := first | assumption | omega) only [e159_0, e159_1, e159_2, e159_5, e159_7, e159_9, e159_9N, e159_12, e159_14, e159_15, e159_18, e159_21, e159_23, e159_24, e159_27, e159_30, e159_33, e159_34, e159_35, e159_38, e159_40, e159_41, e159_42, e159_43, e159_44, e159_47, m159, ↓reduceIte, qg_0, qg_1, qg_2, qg_3, qg_4, qg_5, qg_6, qg_7, qg_8, qg_9, qg_10, qg_11, qg_12, qg_13, not_true_eq_false, not_false_eq_true, Nat.reduceBEq, Bool.false_eq_true, ex1, ex3, ex4, exF, qfit_i, qfit_l, qfit_r, qfit_n, qfit_b0, qfit_b1, qcat_i, qcat_r, qcat_n, qcat_l, qroom_0, qroom_c, List.map_cons, List.map_nil, List.sum_cons, List.sum_nil, Nat.reduceAdd, Nat.reduceMul, Nat.reduceLT, Nat.reduceLeDiff, Nat.reduceEqDiff, Nat.reduceSub, decide_true, true_and, and_true, and_self, if_true, if_false, Option.toList_some, Option.toList_none, List.cons_append, List.nil_append, qsL, qlong, List.length_cons, List.length_nil, iN_L, exI, iN_add, iN_mul, iN_le, iN_lt, iN_eq, Nat.le_refl, qfN0, qfN1, uX_16, vX_16, uX_19, vX_19, uX_27, vX_27, uX_30, vX_30, uX_39, vX_39, uX_41, vX_41, uX_43, vX_43, uX_46, vX_46, uX_50, vX_50, uX_53, vX_53, b]
    · have b : ∀ R, qMC (d + 3) 179 [.ref 16, .int (iN i)] h R ↔ R = (some (.ref (sa i)), h) := fun R => x_bodyAt1 s X hi'
      obtain ⟨p, q, w, e, B, S, P⟩ := X.at hi'
      obtain ⟨⟨u16, ult, uF⟩, g0, g1, g2, g3, g4, g5, g6⟩ := S.obj
      rcases hy with hy | ⟨hy, hz⟩
      · have hc : ∀ R, qMC (d + 3) 102 [.ref (sa i), .int y] h R ↔ _ := fun R => (x_hasCorner S P.2.1.2).2 hy
        simp (disch := first | assumption | omega) only [e159_0, e159_1, e159_2, e159_5, e159_7, e159_9, e159_9N, e159_12, e159_14, e159_15, e159_18, e159_21, e159_23, e159_24, e159_27, e159_30, e159_33, e159_34, e159_35, e159_38, e159_40, e159_41, e159_42, e159_43, e159_44, e159_47, m159, ↓reduceIte, qg_0, qg_1, qg_2, qg_3, qg_4, qg_5, qg_6, qg_7, qg_8, qg_9, qg_10, qg_11, qg_12, qg_13, not_true_eq_false, not_false_eq_true, Nat.reduceBEq, Bool.false_eq_true, ex1, ex3, ex4, exF, qfit_i, qfit_l, qfit_r, qfit_n, qfit_b0, qfit_b1, qcat_i, qcat_r, qcat_n, qcat_l, qroom_0, qroom_c, List.map_cons, List.map_nil, List.sum_cons, List.sum_nil, Nat.reduceAdd, Nat.reduceMul, Nat.reduceLT, Nat.reduceLeDiff, Nat.reduceEqDiff, Nat.reduceSub, decide_true, true_and, and_true, and_self, if_true, if_false, Option.toList_some, Option.toList_none, List.cons_append, List.nil_append, qsL, qlong, List.length_cons, List.length_nil, iN_L, exI, iN_add, iN_mul, iN_le, iN_lt, iN_eq, Nat.le_refl, qfN0, qfN1, uX_16, vX_16, uX_19, vX_19, uX_27, vX_27, uX_30, vX_30, uX_39, vX_39, uX_41, vX_41, uX_43, vX_43, uX_46, vX_46, uX_50, vX_50, uX_53, vX_53, b, u16, ult, uF, g0, g1, g2, g3, g4, g5, g6, hc]
      · have hc : ∀ R, qMC (d + 3) 102 [.ref (sa i), .int y] h R ↔ _ := fun R => (x_hasCorner S P.2.1.2).1 hy
        have hc2 : ∀ R, qMC (d + 3) 102 [.ref (sa i), .int z] h R ↔ _ := fun R => (x_hasCorner S P.2.1.2).2 hz
        simp (disch := first | assumption | omega) only [e159_0, e159_1, e159_2, e159_5, e159_7, e159_9, e159_9N, e159_12, e159_14, e159_15, e159_18, e159_21, e159_23, e159_24, e159_27, e159_30, e159_33, e159_34, e159_35, e159_38, e159_40, e159_41, e159_42, e159_43, e159_44, e159_47, m159, ↓reduceIte, qg_0, qg_1, qg_2, qg_3, qg_4, qg_5, qg_6, qg_7, qg_8, qg_9, qg_10, qg_11, qg_12, qg_13, not_true_eq_false, not_false_eq_true, Nat.reduceBEq, Bool.false_eq_true, ex1, ex3, ex4, exF, qfit_i, qfit_l, qfit_r, qfit_n, qfit_b0, qfit_b1, qcat_i, qcat_r, qcat_n, qcat_l, qroom_0, qroom_c, List.map_cons, List.map_nil, List.sum_cons, List.sum_nil, Nat.reduceAdd, Nat.reduceMul, Nat.reduceLT, Nat.reduceLeDiff, Nat.reduceEqDiff, Nat.reduceSub, decide_true, true_and, and_true, and_self, if_true, if_false, Option.toList_some, Option.toList_none, List.cons_append, List.nil_append, qsL, qlong, List.length_cons, List.length_nil, iN_L, exI, iN_add, iN_mul, iN_le, iN_lt, iN_eq, Nat.le_refl, qfN0, qfN1, uX_16, vX_16, uX_19, vX_19, uX_27, vX_27, uX_30, vX_30, uX_39, vX_39, uX_41, vX_41, uX_43, vX_43, uX_46, vX_46, uX_50, vX_50, uX_53, vX_53, b, u16, ult, uF, g0, g1, g2, g3, g4, g5, g6, hc, hc2, iN10]
  · have b' : ∀ R, qMC (d + 3) 179 [.ref 16, .int (iN i)] h R ↔ R = (some (.ref (sa i)), h) := fun R => x_bodyAt1 s X hi'
    obtain ⟨p, q, w, e, B, S, P⟩ := X.at hi'
    obtain ⟨⟨u16, ult, uF⟩, g0, g1, g2, g3, g4, g5, g6⟩ := S.obj
    have n16 := P.2.1.2
    have hc : ∀ R, qMC (d + 3) 102 [.ref (sa i), .int (iN a)] h R ↔ _ := fun R => (x_hasCorner S P.2.1.2).1 ⟨a, ha, rfl⟩
    have hc2 : ∀ R, qMC (d + 3) 102 [.ref (sa i), .int (iN b)] h R ↔ _ := fun R => (x_hasCorner S P.2.1.2).1 ⟨b, hb, rfl⟩
    have sh : iN 1 <<< (iN b &&& iN 31) = iN (2 ^ b) := iN_shl1 b (by omega)
    obtain ⟨t, t1, t2, t3⟩ := least (rch_all (X.conn hi') ha hb)
    have pb : 2 ^ b < 65536 := show 2 ^ b < 2 ^ 16 from Nat.pow_lt_pow_right (by decide) (by omega)
    have st : ∀ R, qMC (d + 3) 122 [.ref 43, .ref (sa i), .int (iN a), .int (iN (2 ^ b))] h R ↔ R = (some (.int (iN t)), h) := fun R => x_steps s X hi' ha pb t1 ((wo_pow hb).mpr t2) (fun k hk z => t3 k hk ((wo_pow hb).mp z))
    rw [dist_eq ⟨t1, t2, t3⟩]
    simp (disch := first | assumption | omega) only [e159_0, e159_1, e159_2, e159_5, e159_7, e159_9, e159_9N, e159_12, e159_14, e159_15, e159_18, e159_21, e159_23, e159_24, e159_27, e159_30, e159_33, e159_34, e159_35, e159_38, e159_40, e159_41, e159_42, e159_43, e159_44, e159_47, m159, ↓reduceIte, qg_0, qg_1, qg_2, qg_3, qg_4, qg_5, qg_6, qg_7, qg_8, qg_9, qg_10, qg_11, qg_12, qg_13, not_true_eq_false, not_false_eq_true, Nat.reduceBEq, Bool.false_eq_true, ex1, ex3, ex4, exF, qfit_i, qfit_l, qfit_r, qfit_n, qfit_b0, qfit_b1, qcat_i, qcat_r, qcat_n, qcat_l, qroom_0, qroom_c, List.map_cons, List.map_nil, List.sum_cons, List.sum_nil, Nat.reduceAdd, Nat.reduceMul, Nat.reduceLT, Nat.reduceLeDiff, Nat.reduceEqDiff, Nat.reduceSub, decide_true, true_and, and_true, and_self, if_true, if_false, Option.toList_some, Option.toList_none, List.cons_append, List.nil_append, qsL, qlong, List.length_cons, List.length_nil, iN_L, exI, iN_add, iN_mul, iN_le, iN_lt, iN_eq, Nat.le_refl, qfN0, qfN1, uX_16, vX_16, uX_19, vX_19, uX_27, vX_27, uX_30, vX_30, uX_39, vX_39, uX_41, vX_41, uX_43, vX_43, uX_46, vX_46, uX_50, vX_50, uX_53, vX_53, b', u16, ult, uF, g0, g1, g2, g3, g4, g5, g6, hc, hc2, iN10, gX_16_9, sh, st]
set_option maxRecDepth 100000 in
set_option maxHeartbeats 16000000 in
theorem x_far {x v : Int32} (s : ShX h) (X : BsX h bs sa) (hv : farR bs x v) : qMC (d + 4) 160 [.ref 16, .int x] h R ↔ R = (some (.int v), h) := by
  rcases hv with ⟨hx, rfl⟩ | ⟨i, ⟨hi', rfl⟩, rfl⟩
  · have b : ∀ R, qMC (d + 3) 179 [.ref 16, .int x] h R ↔ R = (some .null, h) := fun R => x_bodyAt0 s X hx
    simp (disch := first | assumption | omega) only [e160_0, e160_1, e160_2, e160_5, e160_6, e160_7, e160_7N, e160_10, e160_13, e160_14, e160_15, e160_16, e160_17, e160_21, e160_22, e160_25, e160_28, e160_29, e160_30, e160_33, e160_34, e160_36, e160_37, e160_40, e160_43, e160_46, e160_47, e160_50, e160_53, e160_54, m160, ↓reduceIte, qg_0, qg_1, qg_2, qg_3, qg_4, qg_5, qg_6, qg_7, qg_8, qg_9, qg_10, qg_11, qg_12, qg_13, not_true_eq_false, not_false_eq_true, Nat.reduceBEq, Bool.false_eq_true, ex1, ex3, ex4, exF, qfit_i, qfit_l, qfit_r, qfit_n, qfit_b0, qfit_b1, qcat_i, qcat_r, qcat_n, qcat_l, qroom_0, qroom_c, List.map_cons, List.map_nil, List.sum_cons, List.sum_nil, Nat.reduceAdd, Nat.reduceMul, Nat.reduceLT, Nat.reduceLeDiff, Nat.reduceEqDiff, Nat.reduceSub, decide_true, true_and, and_true, and_self, if_true, if_false, Option.toList_some, Option.toList_none, List.cons_append, List.nil_append, qsL, qlong, List.length_cons, List.length_nil, iN_L, exI, iN_add, iN_mul, iN_le, iN_lt, iN_eq, Nat.le_refl, qfN0, qfN1, uX_16, vX_16, uX_19, vX_19, uX_27, vX_27, uX_30, vX_30, uX_39, vX_39, uX_41, vX_41, uX_43, vX_43, uX_46, vX_46, uX_50, vX_50, uX_53, vX_53, b]
  · have b' : ∀ R, qMC (d + 3) 179 [.ref 16, .int (iN i)] h R ↔ R = (some (.ref (sa i)), h) := fun R => x_bodyAt1 s X hi'
    obtain ⟨p, q, w, e, B, S, P⟩ := X.at hi'
    obtain ⟨⟨u16, ult, uF⟩, g0, g1, g2, g3, g4, g5, g6⟩ := S.obj
    have n16 := P.2.1.2
    have hcn := X.conn hi'
    have ev : ∀ R, qMC (d + 3) 103 [.ref (sa i)] h R ↔ R = (some (.int (iN (2 ^ (cnr bs i).length - 1))), h) := fun R => x_every S n16
    have pn : 2 ^ (cnr bs i).length ≤ 65536 := show _ ≤ 2 ^ 16 from Nat.pow_le_pow_right (by decide) n16
    have pp := Nat.two_pow_pos (cnr bs i).length
    have fl : ∀ a, a ≤ (cnr bs i).length → farN (adjB (cel bs i 1)) (cnr bs i).length a ≤ (cnr bs i).length := by
      intro a
      induction a with
      | zero => exact fun _ => Nat.zero_le _
      | succ a ih =>
        intro ha
        exact rmx_le (ih (by omega)) _ fun k hk => dist_le hcn (by omega) hk
    have r0 : qMC (d + 4) 160 [.ref 16, .int (iN i)] h R ↔ qEv (d + 3) 0 qk_160 19 [some (.ref 16), some (.int (iN i)), some (.ref (sa i)), some (.int (iN (farN (adjB (cel bs i 1)) (cnr bs i).length 0))), some (.int (iN 0))] [] h R := by
      rw [show farN (adjB (cel bs i 1)) (cnr bs i).length 0 = 0 from rfl]
      simp (disch := first | assumption | omega) only [e160_0, e160_1, e160_2, e160_5, e160_6, e160_7, e160_7N, e160_10, e160_13, e160_14, e160_15, e160_16, e160_17, e160_21, e160_22, e160_25, e160_28, e160_29, e160_30, e160_33, e160_34, e160_36, e160_37, e160_40, e160_43, e160_46, e160_47, e160_50, e160_53, e160_54, m160, ↓reduceIte, qg_0, qg_1, qg_2, qg_3, qg_4, qg_5, qg_6, qg_7, qg_8, qg_9, qg_10, qg_11, qg_12, qg_13, not_true_eq_false, not_false_eq_true, Nat.reduceBEq, Bool.false_eq_true, ex1, ex3, ex4, exF, qfit_i, qfit_l, qfit_r, qfit_n, qfit_b0, qfit_b1, qcat_i, qcat_r, qcat_n, qcat_l, qroom_0, qroom_c, List.map_cons, List.map_nil, List.sum_cons, List.sum_nil, Nat.reduceAdd, Nat.reduceMul, Nat.reduceLT, Nat.reduceLeDiff, Nat.reduceEqDiff, Nat.reduceSub, decide_true, true_and, and_true, and_self, if_true, if_false, Option.toList_some, Option.toList_none, List.cons_append, List.nil_append, qsL, qlong, List.length_cons, List.length_nil, iN_L, exI, iN_add, iN_mul, iN_le, iN_lt, iN_eq, Nat.le_refl, qfN0, qfN1, uX_16, vX_16, uX_19, vX_19, uX_27, vX_27, uX_30, vX_30, uX_39, vX_39, uX_41, vX_41, uX_43, vX_43, uX_46, vX_46, uX_50, vX_50, uX_53, vX_53, b']
    rw [r0]
    refine Iff.trans (loop_up (n := (cnr bs i).length) (L := fun a => [some (.ref 16), some (.int (iN i)), some (.ref (sa i)), some (.int (iN (farN (adjB (cel bs i 1)) (cnr bs i).length a))), some (.int (iN a))]) (H := fun _ => h) ?_) ?_
    · intro a ha
      try dsimp only
      obtain ⟨t, t1, t2, t3, t4⟩ := far_row (m0 := farN (adjB (cel bs i 1)) (cnr bs i).length a) hcn ha
      have st : ∀ R, qMC (d + 3) 122 [.ref 43, .ref (sa i), .int (iN a), .int (iN (2 ^ (cnr bs i).length - 1))] h R ↔ R = (some (.int (iN t)), h) := fun R => x_steps s X hi' ha (by omega) t1 t2 t3
      have fa := fl a (by omega)
      have mx : ∀ R, qMC (d + 3) 312 [.int (iN (farN (adjB (cel bs i 1)) (cnr bs i).length a)), .int (iN t)] h R ↔ _ := fun R => x_max (by omega) (by omega)
      rw [e160_19, farN, t4]
      simp (disch := first | assumption | omega) only [e160_0, e160_1, e160_2, e160_5, e160_6, e160_7, e160_7N, e160_10, e160_13, e160_14, e160_15, e160_16, e160_17, e160_21, e160_22, e160_25, e160_28, e160_29, e160_30, e160_33, e160_34, e160_36, e160_37, e160_40, e160_43, e160_46, e160_47, e160_50, e160_53, e160_54, m160, ↓reduceIte, qg_0, qg_1, qg_2, qg_3, qg_4, qg_5, qg_6, qg_7, qg_8, qg_9, qg_10, qg_11, qg_12, qg_13, not_true_eq_false, not_false_eq_true, Nat.reduceBEq, Bool.false_eq_true, ex1, ex3, ex4, exF, qfit_i, qfit_l, qfit_r, qfit_n, qfit_b0, qfit_b1, qcat_i, qcat_r, qcat_n, qcat_l, qroom_0, qroom_c, List.map_cons, List.map_nil, List.sum_cons, List.sum_nil, Nat.reduceAdd, Nat.reduceMul, Nat.reduceLT, Nat.reduceLeDiff, Nat.reduceEqDiff, Nat.reduceSub, decide_true, true_and, and_true, and_self, if_true, if_false, Option.toList_some, Option.toList_none, List.cons_append, List.nil_append, qsL, qlong, List.length_cons, List.length_nil, iN_L, exI, iN_add, iN_mul, iN_le, iN_lt, iN_eq, Nat.le_refl, qfN0, qfN1, uX_16, vX_16, uX_19, vX_19, uX_27, vX_27, uX_30, vX_30, uX_39, vX_39, uX_41, vX_41, uX_43, vX_43, uX_46, vX_46, uX_50, vX_50, uX_53, vX_53, u16, ult, uF, g0, g1, g2, g3, g4, g5, g6, show ¬ (cnr bs i).length ≤ a by omega, gX_16_9, ev, st, mx]
    · try dsimp only
      rw [e160_19]
      simp (disch := first | assumption | omega) only [e160_0, e160_1, e160_2, e160_5, e160_6, e160_7, e160_7N, e160_10, e160_13, e160_14, e160_15, e160_16, e160_17, e160_21, e160_22, e160_25, e160_28, e160_29, e160_30, e160_33, e160_34, e160_36, e160_37, e160_40, e160_43, e160_46, e160_47, e160_50, e160_53, e160_54, m160, ↓reduceIte, qg_0, qg_1, qg_2, qg_3, qg_4, qg_5, qg_6, qg_7, qg_8, qg_9, qg_10, qg_11, qg_12, qg_13, not_true_eq_false, not_false_eq_true, Nat.reduceBEq, Bool.false_eq_true, ex1, ex3, ex4, exF, qfit_i, qfit_l, qfit_r, qfit_n, qfit_b0, qfit_b1, qcat_i, qcat_r, qcat_n, qcat_l, qroom_0, qroom_c, List.map_cons, List.map_nil, List.sum_cons, List.sum_nil, Nat.reduceAdd, Nat.reduceMul, Nat.reduceLT, Nat.reduceLeDiff, Nat.reduceEqDiff, Nat.reduceSub, decide_true, true_and, and_true, and_self, if_true, if_false, Option.toList_some, Option.toList_none, List.cons_append, List.nil_append, qsL, qlong, List.length_cons, List.length_nil, iN_L, exI, iN_add, iN_mul, iN_le, iN_lt, iN_eq, Nat.le_refl, qfN0, qfN1, uX_16, vX_16, uX_19, vX_19, uX_27, vX_27, uX_30, vX_30, uX_39, vX_39, uX_41, vX_41, uX_43, vX_43, uX_46, vX_46, uX_50, vX_50, uX_53, vX_53, u16, ult, uF, g0, g1, g2, g3, g4, g5, g6]
end XWALK2

/-! ===== THE CLASS: meets, fresh ===== -/
section XMEETS
variable {d : Nat} {h : qH} {bs : List bdy} {sa : Nat → Nat} {R : qRes} {r : List Nat}
/-- the corners without which facet j lies in one ahead -/
def spA (X : Nat → Nat) (j : Nat) : Nat → Nat
  | 0 => 0
  | k + 1 => spA X j k ||| (if pop (wo (X j) (X k)) 24 = 1 then wo (X j) (X k) else 0)
theorem spA_bit {X : Nat → Nat} {j c : Nat} : ∀ {k : Nat}, (spA X j k).testBit c = true ↔ ∃ t, t < k ∧ pop (wo (X j) (X t)) 24 = 1 ∧ (wo (X j) (X t)).testBit c = true
  | 0 => by
    rw [spA, Nat.zero_testBit]
    exact ⟨fun z => (by cases z), fun ⟨t, ht, _⟩ => absurd ht (Nat.not_lt_zero t)⟩
  | k + 1 => by
    rw [spA, Nat.testBit_or, Bool.or_eq_true, spA_bit (k := k)]
    constructor
    · rintro (⟨t, t1, t2⟩ | z)
      · exact ⟨t, by omega, t2⟩
      · by_cases q : pop (wo (X j) (X k)) 24 = 1
        · rw [if_pos q] at z; exact ⟨k, by omega, q, z⟩
        · rw [if_neg q, Nat.zero_testBit] at z; cases z
    · rintro ⟨t, t1, t2, t3⟩
      rcases Nat.lt_or_ge t k with z | z
      · exact Or.inl ⟨t, z, t2, t3⟩
      · have e : t = k := by omega
        subst e
        rw [if_pos t2]; exact Or.inr t3
theorem spA_lt {X : Nat → Nat} {j : Nat} (hj : X j < 65536) : ∀ k, spA X j k < 65536
  | 0 => by rw [spA]; decide
  | k + 1 => by
    rw [spA]
    refine Nat.or_lt_two_pow (n := 16) (spA_lt hj k) ?_
    have := wo_le (X j) (X k)
    split
    · show _ < 65536; omega
    · decide
theorem pop1_un {x c e : Nat} (h1 : pop x 24 = 1) (hx : x < 65536) (hc : x.testBit c = true) (he : x.testBit e = true) : c = e := by
  apply Classical.byContradiction
  intro z
  have c16 := bit16 hx hc
  have e16 := bit16 hx he
  have h2 : pop (2 ^ c ||| 2 ^ e) 24 = 2 := by
    rw [pop_or (fun b hb => by
      rw [Nat.testBit_two_pow, Nat.testBit_two_pow] at hb
      have := of_decide_eq_true hb.1
      have := of_decide_eq_true hb.2
      omega), pop_one (by omega), pop_one (by omega)]
  have h3 : pop (2 ^ c ||| 2 ^ e) 24 ≤ pop x 24 := pop_mono fun b hb => by
    rcases pair_bit.mp hb with w | w
    · rw [w]; exact hc
    · rw [w]; exact he
  omega
theorem pop_split (a b : Nat) : pop a 24 = pop (a &&& b) 24 + pop (wo a b) 24 := by
  rw [← pop_or (fun c hc => by
    rw [Nat.testBit_and, wo_bit, Bool.and_eq_true, Bool.and_eq_true] at hc
    have h1 := hc.1.2
    have h2 := hc.2.2
    rw [h1] at h2; cases h2)]
  congr 1
  apply Nat.eq_of_testBit_eq
  intro i
  rw [Nat.testBit_or, Nat.testBit_and, wo_bit]
  cases a.testBit i <;> cases b.testBit i <;> rfl
theorem wo_some {a b : Nat} : wo a b ≠ 0 ↔ ∃ c, a.testBit c = true ∧ b.testBit c = false := by
  constructor
  · intro hn
    apply Classical.byContradiction
    intro z
    refine hn (Nat.eq_of_testBit_eq fun i => ?_)
    rw [wo_bit, Nat.zero_testBit]
    cases e1 : a.testBit i with
    | false => rfl
    | true =>
      cases e2 : b.testBit i with
      | true => rfl
      | false => exact absurd ⟨i, e1, e2⟩ z
  · rintro ⟨c, h1, h2⟩ e
    have := wo_bit a b c
    rw [e, h1, h2, Nat.zero_testBit] at this
    cases this
/-- one is answered, if it lacks one of these corners -/
theorem ans_iff {X : Nat → Nat} {D j a : Nat} (hD : 1 ≤ D) (hj : X j < 65536) (hp : pop (X j) 24 = D) : anyN (ansB X D j a) j = decide (wo (spA X j j) (X a) ≠ 0) := by
  rw [Bool.eq_iff_iff, decide_eq_true_eq, anyN_iff, wo_some]
  constructor
  · rintro ⟨k, hk, hb⟩
    unfold ansB at hb
    rw [Bool.and_eq_true, decide_eq_true_eq, decide_eq_true_eq] at hb
    have ps := pop_split (X j) (X k)
    have p1 : pop (wo (X j) (X k)) 24 = 1 := by omega
    obtain ⟨c, hc⟩ : ∃ c, (wo (X j) (X k)).testBit c = true := by
      obtain ⟨c, -, hc⟩ := cntN_pos.mp (show 0 < pop (wo (X j) (X k)) 24 by omega)
      exact ⟨c, hc⟩
    refine ⟨c, spA_bit.mpr ⟨k, hk, p1, hc⟩, ?_⟩
    rw [wo_bit, Bool.and_eq_true] at hc
    cases e : (X a).testBit c with
    | false => rfl
    | true =>
      have := wo_bit (X j &&& X a) (X j &&& X k) c
      rw [hb.2, Nat.zero_testBit, Nat.testBit_and, Nat.testBit_and, hc.1, e] at this
      have h2 := hc.2
      cases e2 : (X k).testBit c with
      | true => rw [e2] at h2; cases h2
      | false => rw [e2] at this; cases this
  · rintro ⟨c, hc, hn⟩
    obtain ⟨k, hk, p1, hb⟩ := spA_bit.mp hc
    refine ⟨k, hk, ?_⟩
    unfold ansB
    have ps := pop_split (X j) (X k)
    rw [Bool.and_eq_true, decide_eq_true_eq, decide_eq_true_eq]
    refine ⟨by omega, ?_⟩
    apply Classical.byContradiction
    intro z
    obtain ⟨e, he, hf⟩ := wo_some.mp z
    rw [Nat.testBit_and, Bool.and_eq_true] at he
    have ke : (X k).testBit e = false := by rw [Nat.testBit_and, he.1] at hf; exact hf
    have : c = e := pop1_un p1 (Nat.lt_of_le_of_lt (wo_le _ _) hj) hb (by rw [wo_bit, he.1, ke]; rfl)
    rw [this, he.2] at hn; cases hn
theorem mtB_eq {X : Nat → Nat} {D j : Nat} (hD : 1 ≤ D) (hj : X j < 65536) (hp : pop (X j) 24 = D) : mtB X D j = allN (fun a => decide (wo (spA X j j) (X a) ≠ 0)) j := by
  unfold mtB
  exact congrArg (fun f => allN f j) (funext fun a => ans_iff hD hj hp)
theorem rwF_ok {i k : Nat} (ho : rowOf bs i r = true) (hk : k < r.length) : r.getD k 0 < (fct bs i).length := of_decide_eq_true (allN_iff.mp ho k hk)
theorem SoP.f {i : Nat} (P : SoP (dmn bs i) (cnr bs i) (cel bs i)) {k : Nat} (hk : k < (fct bs i).length) : 0 < (fct bs i).getD k 0 ∧ (fct bs i).getD k 0 < 65536 := (P.2.2.2.2.1 (dmn bs i - 1) (by have := P.1; omega)).2 k hk
set_option maxRecDepth 100000 in
theorem x_isOf {i : Nat} (s : ShX h) (X : BsX h bs sa) (hi' : i < bs.length) (rv : RwX h r) : qMC (d + 2) 7 [.ref 41, .ref (sa i)] h R ↔ R = (some (.int (bB (rowOf bs i r))), h) := by
  obtain ⟨p, q, w, e, B, S, P⟩ := X.at hi'
  obtain ⟨⟨u16, ult, uF⟩, g0, g1, g2, g3, g4, g5, g6⟩ := S.obj
  obtain ⟨r1, r2, r3⟩ := rv
  have l8 := (P.2.2.2.2.1 (dmn bs i - 1) (by have := P.1; omega)).1
  have fc : ∀ R, qMC (d + 1) 108 [.ref (sa i)] h R ↔ R = (some (.int (iN (fct bs i).length)), h) := fun R => x_facetCount S P.1
  have l8' : (fct bs i).length ≤ 208 := l8
  have go : ∀ (w j : Nat), j + w = r.length → (∀ t, t < j → r.getD t 0 < (fct bs i).length) → (qEv (d + 1) 3 qk_7 2 [some (.ref 41), some (.ref (sa i)), some (.int (iN j))] [] h R ↔ R = (some (.int (bB (rowOf bs i r))), h)) := by
    intro w
    induction w with
    | zero =>
      intro j hj hn
      rw [show rowOf bs i r = true from allN_iff.mpr fun t ht => decide_eq_true (hn t (by omega)), bN_t, e7_2]
      simp (disch := first | assumption | omega) only [e7_0, e7_1, e7_3, e7_4, e7_7, e7_10, e7_11, e7_14, e7_15, e7_16, e7_17, e7_20, e7_23, e7_24, e7_25, e7_28, e7_31, e7_32, m7, ↓reduceIte, qg_0, qg_1, qg_2, qg_3, qg_4, qg_5, qg_6, qg_7, qg_8, qg_9, qg_10, qg_11, qg_12, qg_13, not_true_eq_false, not_false_eq_true, Nat.reduceBEq, Bool.false_eq_true, ex1, ex3, ex4, exF, qfit_i, qfit_l, qfit_r, qfit_n, qfit_b0, qfit_b1, qcat_i, qcat_r, qcat_n, qcat_l, qroom_0, qroom_c, List.map_cons, List.map_nil, List.sum_cons, List.sum_nil, Nat.reduceAdd, Nat.reduceMul, Nat.reduceLT, Nat.reduceLeDiff, Nat.reduceEqDiff, Nat.reduceSub, decide_true, true_and, and_true, and_self, if_true, if_false, Option.toList_some, Option.toList_none, List.cons_append, List.nil_append, qsL, qlong, List.length_cons, List.length_nil, iN_L, exI, iN_add, iN_mul, iN_le, iN_lt, iN_eq, Nat.le_refl, qfN0, qfN1, uX_16, vX_16, uX_19, vX_19, uX_27, vX_27, uX_30, vX_30, uX_39, vX_39, uX_41, vX_41, uX_43, vX_43, uX_46, vX_46, uX_50, vX_50, uX_53, vX_53, gX_41_1, r2, show r.length ≤ j by omega]
    | succ w ih =>
      intro j hj hn
      have hj' : j < r.length := by omega
      obtain ⟨v1, v2⟩ := r3 j hj'
      by_cases z : r.getD j 0 < (fct bs i).length
      · rw [← ih (j + 1) (by omega) (fun t ht => by
          rcases Nat.lt_or_ge t j with y | y
          · exact hn t y
          · rw [show t = j by omega]; exact z), e7_2]
        simp (disch := first | assumption | omega) only [e7_0, e7_1, e7_3, e7_4, e7_7, e7_10, e7_11, e7_14, e7_15, e7_16, e7_17, e7_20, e7_23, e7_24, e7_25, e7_28, e7_31, e7_32, m7, ↓reduceIte, qg_0, qg_1, qg_2, qg_3, qg_4, qg_5, qg_6, qg_7, qg_8, qg_9, qg_10, qg_11, qg_12, qg_13, not_true_eq_false, not_false_eq_true, Nat.reduceBEq, Bool.false_eq_true, ex1, ex3, ex4, exF, qfit_i, qfit_l, qfit_r, qfit_n, qfit_b0, qfit_b1, qcat_i, qcat_r, qcat_n, qcat_l, qroom_0, qroom_c, List.map_cons, List.map_nil, List.sum_cons, List.sum_nil, Nat.reduceAdd, Nat.reduceMul, Nat.reduceLT, Nat.reduceLeDiff, Nat.reduceEqDiff, Nat.reduceSub, decide_true, true_and, and_true, and_self, if_true, if_false, Option.toList_some, Option.toList_none, List.cons_append, List.nil_append, qsL, qlong, List.length_cons, List.length_nil, iN_L, exI, iN_add, iN_mul, iN_le, iN_lt, iN_eq, Nat.le_refl, qfN0, qfN1, uX_16, vX_16, uX_19, vX_19, uX_27, vX_27, uX_30, vX_30, uX_39, vX_39, uX_41, vX_41, uX_43, vX_43, uX_46, vX_46, uX_50, vX_50, uX_53, vX_53, gX_41_1, r2, show ¬ r.length ≤ j by omega, gX_41_0, rX_42, v1, u16, ult, uF, g0, g1, g2, g3, g4, g5, g6, fc, z]
      · rw [show rowOf bs i r = false from all_f hj' (decide_eq_false z), bN_f, e7_2]
        simp (disch := first | assumption | omega) only [e7_0, e7_1, e7_3, e7_4, e7_7, e7_10, e7_11, e7_14, e7_15, e7_16, e7_17, e7_20, e7_23, e7_24, e7_25, e7_28, e7_31, e7_32, m7, ↓reduceIte, qg_0, qg_1, qg_2, qg_3, qg_4, qg_5, qg_6, qg_7, qg_8, qg_9, qg_10, qg_11, qg_12, qg_13, not_true_eq_false, not_false_eq_true, Nat.reduceBEq, Bool.false_eq_true, ex1, ex3, ex4, exF, qfit_i, qfit_l, qfit_r, qfit_n, qfit_b0, qfit_b1, qcat_i, qcat_r, qcat_n, qcat_l, qroom_0, qroom_c, List.map_cons, List.map_nil, List.sum_cons, List.sum_nil, Nat.reduceAdd, Nat.reduceMul, Nat.reduceLT, Nat.reduceLeDiff, Nat.reduceEqDiff, Nat.reduceSub, decide_true, true_and, and_true, and_self, if_true, if_false, Option.toList_some, Option.toList_none, List.cons_append, List.nil_append, qsL, qlong, List.length_cons, List.length_nil, iN_L, exI, iN_add, iN_mul, iN_le, iN_lt, iN_eq, Nat.le_refl, qfN0, qfN1, uX_16, vX_16, uX_19, vX_19, uX_27, vX_27, uX_30, vX_30, uX_39, vX_39, uX_41, vX_41, uX_43, vX_43, uX_46, vX_46, uX_50, vX_50, uX_53, vX_53, gX_41_1, r2, show ¬ r.length ≤ j by omega, gX_41_0, rX_42, v1, u16, ult, uF, g0, g1, g2, g3, g4, g5, g6, fc, z]
  rw [← go r.length 0 (by omega) (fun t ht => absurd ht (Nat.not_lt_zero t))]
  simp (disch := first | assumption | omega) only [e7_0, e7_1, e7_3, e7_4, e7_7, e7_10, e7_11, e7_14, e7_15, e7_16, e7_17, e7_20, e7_23, e7_24, e7_25, e7_28, e7_31, e7_32, m7, ↓reduceIte, qg_0, qg_1, qg_2, qg_3, qg_4, qg_5, qg_6, qg_7, qg_8, qg_9, qg_10, qg_11, qg_12, qg_13, not_true_eq_false, not_false_eq_true, Nat.reduceBEq, Bool.false_eq_true, ex1, ex3, ex4, exF, qfit_i, qfit_l, qfit_r, qfit_n, qfit_b0, qfit_b1, qcat_i, qcat_r, qcat_n, qcat_l, qroom_0, qroom_c, List.map_cons, List.map_nil, List.sum_cons, List.sum_nil, Nat.reduceAdd, Nat.reduceMul, Nat.reduceLT, Nat.reduceLeDiff, Nat.reduceEqDiff, Nat.reduceSub, decide_true, true_and, and_true, and_self, if_true, if_false, Option.toList_some, Option.toList_none, List.cons_append, List.nil_append, qsL, qlong, List.length_cons, List.length_nil, iN_L, exI, iN_add, iN_mul, iN_le, iN_lt, iN_eq, Nat.le_refl, qfN0, qfN1, uX_16, vX_16, uX_19, vX_19, uX_27, vX_27, uX_30, vX_30, uX_39, vX_39, uX_41, vX_41, uX_43, vX_43, uX_46, vX_46, uX_50, vX_50, uX_53, vX_53]
end XMEETS

/-! ===== THE CLASS: the hull's facets; isInFacet, keepFacet, nextChoice ===== -/
section XHULL
variable {d f : Nat} {h : qH} {R : qRes} {S : Nat → Nat} {Q : Nat → Nat → Int}
def HfX (h : qH) (f : Nat) (S : Nat → Nat) (Q : Nat → Nat → Int) : Prop := xi h 19 6 = iN f ∧ f ≤ 104 ∧ ∀ j, j < f → (hi h 21 j = iN (S j) ∧ S j < 65536) ∧ ∀ t, t < 5 → hl h 22 (j * 5 + t) = lZ (Q j t)
theorem HfX.ch {A : List Nat} {J : List (Nat × Nat)} {k : Nat} {h' : qH} (v : HfX h f S Q) (c : ChX A J k h h') (s : ShX h) (h1 : 21 ∉ A) (h2 : 22 ∉ A) (h3 : (19, 6) ∉ J) : HfX h' f S Q := by
  obtain ⟨v1, v2, v3⟩ := v
  refine ⟨(c.xi (by decide) h3).trans v1, v2, fun j hj => ?_⟩
  rw [c.hi h1 (by decide) (s.lt (by decide)), c.hl h2 (by decide) (s.lt (by decide))]
  exact v3 j hj
set_option maxRecDepth 100000 in
set_option maxHeartbeats 16000000 in
theorem x_isInFacet {x : Nat} (s : ShX h) (v : HfX h f S Q) (hx : x < 65536) : qMC (d + 1) 25 [.ref 19, .int (iN x)] h R ↔ R = (some (.int (bB (anyN (fun j => decide (wo x (S j) = 0)) f))), h) := by
  obtain ⟨v1, v2, v3⟩ := v
  have go : ∀ (w j : Nat), j + w = f → (∀ t, t < j → ¬ wo x (S t) = 0) → (qEv d 3 qk_25 2 [some (.ref 19), some (.int (iN x)), some (.int (iN j))] [] h R ↔ R = (some (.int (bB (anyN (fun j => decide (wo x (S j) = 0)) f))), h)) := by
    intro w
    induction w with
    | zero =>
      intro j hj hn
      have e : anyN (fun j => decide (wo x (S j) = 0)) f = false := by
        cases q : anyN (fun j => decide (wo x (S j) = 0)) f with
        | false => rfl
        | true =>
          obtain ⟨t, ht, h2⟩ := anyN_iff.mp q
          exact absurd (of_decide_eq_true h2) (hn t (by omega))
      rw [e, bN_f, e25_2]
      simp (disch := first | assumption | omega) only [e25_0, e25_1, e25_3, e25_4, e25_7, e25_10, e25_11, e25_12, e25_15, e25_16, e25_17, e25_18, e25_19, e25_20, e25_23, e25_24, e25_25, e25_28, e25_31, e25_32, m25, ↓reduceIte, qg_0, qg_1, qg_2, qg_3, qg_4, qg_5, qg_6, qg_7, qg_8, qg_9, qg_10, qg_11, qg_12, qg_13, not_true_eq_false, not_false_eq_true, Nat.reduceBEq, Bool.false_eq_true, ex1, ex3, ex4, exF, qfit_i, qfit_l, qfit_r, qfit_n, qfit_b0, qfit_b1, qcat_i, qcat_r, qcat_n, qcat_l, qroom_0, qroom_c, List.map_cons, List.map_nil, List.sum_cons, List.sum_nil, Nat.reduceAdd, Nat.reduceMul, Nat.reduceLT, Nat.reduceLeDiff, Nat.reduceEqDiff, Nat.reduceSub, decide_true, true_and, and_true, and_self, if_true, if_false, Option.toList_some, Option.toList_none, List.cons_append, List.nil_append, qsL, qlong, List.length_cons, List.length_nil, iN_L, exI, iN_add, iN_mul, iN_le, iN_lt, iN_eq, Nat.le_refl, qfN0, qfN1, uX_16, vX_16, uX_19, vX_19, uX_27, vX_27, uX_30, vX_30, uX_39, vX_39, uX_41, vX_41, uX_43, vX_43, uX_46, vX_46, uX_50, vX_50, uX_53, vX_53, gX_19_6, v1, show f ≤ j by omega]
    | succ w ih =>
      intro j hj hn
      have hj' : j < f := by omega
      obtain ⟨⟨r1, r2⟩, -⟩ := v3 j hj'
      have r3 : qiald h 21 (iN j) = some (iN (S j)) := by rw [rX_21 s (by omega), r1]
      by_cases z : wo x (S j) = 0
      · have e : anyN (fun j => decide (wo x (S j) = 0)) f = true := anyN_iff.mpr ⟨j, hj', decide_eq_true z⟩
        rw [e, bN_t, e25_2]
        simp (disch := first | assumption | omega) only [e25_0, e25_1, e25_3, e25_4, e25_7, e25_10, e25_11, e25_12, e25_15, e25_16, e25_17, e25_18, e25_19, e25_20, e25_23, e25_24, e25_25, e25_28, e25_31, e25_32, m25, ↓reduceIte, qg_0, qg_1, qg_2, qg_3, qg_4, qg_5, qg_6, qg_7, qg_8, qg_9, qg_10, qg_11, qg_12, qg_13, not_true_eq_false, not_false_eq_true, Nat.reduceBEq, Bool.false_eq_true, ex1, ex3, ex4, exF, qfit_i, qfit_l, qfit_r, qfit_n, qfit_b0, qfit_b1, qcat_i, qcat_r, qcat_n, qcat_l, qroom_0, qroom_c, List.map_cons, List.map_nil, List.sum_cons, List.sum_nil, Nat.reduceAdd, Nat.reduceMul, Nat.reduceLT, Nat.reduceLeDiff, Nat.reduceEqDiff, Nat.reduceSub, decide_true, true_and, and_true, and_self, if_true, if_false, Option.toList_some, Option.toList_none, List.cons_append, List.nil_append, qsL, qlong, List.length_cons, List.length_nil, iN_L, exI, iN_add, iN_mul, iN_le, iN_lt, iN_eq, Nat.le_refl, qfN0, qfN1, uX_16, vX_16, uX_19, vX_19, uX_27, vX_27, uX_30, vX_30, uX_39, vX_39, uX_41, vX_41, uX_43, vX_43, uX_46, vX_46, uX_50, vX_50, uX_53, vX_53, gX_19_6, gX_19_4, v1, show ¬ f ≤ j by omega, r3, iN_wo', z]
      · rw [← ih (j + 1) (by omega) (fun t ht => by
          rcases Nat.lt_or_ge t j with y | y
          · exact hn t y
          · rw [show t = j by omega]; exact z), e25_2]
        have wl := wo_le x (S j)
        simp (disch := first | assumption | omega) only [e25_0, e25_1, e25_3, e25_4, e25_7, e25_10, e25_11, e25_12, e25_15, e25_16, e25_17, e25_18, e25_19, e25_20, e25_23, e25_24, e25_25, e25_28, e25_31, e25_32, m25, ↓reduceIte, qg_0, qg_1, qg_2, qg_3, qg_4, qg_5, qg_6, qg_7, qg_8, qg_9, qg_10, qg_11, qg_12, qg_13, not_true_eq_false, not_false_eq_true, Nat.reduceBEq, Bool.false_eq_true, ex1, ex3, ex4, exF, qfit_i, qfit_l, qfit_r, qfit_n, qfit_b0, qfit_b1, qcat_i, qcat_r, qcat_n, qcat_l, qroom_0, qroom_c, List.map_cons, List.map_nil, List.sum_cons, List.sum_nil, Nat.reduceAdd, Nat.reduceMul, Nat.reduceLT, Nat.reduceLeDiff, Nat.reduceEqDiff, Nat.reduceSub, decide_true, true_and, and_true, and_self, if_true, if_false, Option.toList_some, Option.toList_none, List.cons_append, List.nil_append, qsL, qlong, List.length_cons, List.length_nil, iN_L, exI, iN_add, iN_mul, iN_le, iN_lt, iN_eq, Nat.le_refl, qfN0, qfN1, uX_16, vX_16, uX_19, vX_19, uX_27, vX_27, uX_30, vX_30, uX_39, vX_39, uX_41, vX_41, uX_43, vX_43, uX_46, vX_46, uX_50, vX_50, uX_53, vX_53, gX_19_6, gX_19_4, v1, show ¬ f ≤ j by omega, r3, iN_wo', z]
  rw [← go f 0 (by omega) (fun t ht => absurd ht (Nat.not_lt_zero t))]
  simp (disch := first | assumption | omega) only [e25_0, e25_1, e25_3, e25_4, e25_7, e25_10, e25_11, e25_12, e25_15, e25_16, e25_17, e25_18, e25_19, e25_20, e25_23, e25_24, e25_25, e25_28, e25_31, e25_32, m25, ↓reduceIte, qg_0, qg_1, qg_2, qg_3, qg_4, qg_5, qg_6, qg_7, qg_8, qg_9, qg_10, qg_11, qg_12, qg_13, not_true_eq_false, not_false_eq_true, Nat.reduceBEq, Bool.false_eq_true, ex1, ex3, ex4, exF, qfit_i, qfit_l, qfit_r, qfit_n, qfit_b0, qfit_b1, qcat_i, qcat_r, qcat_n, qcat_l, qroom_0, qroom_c, List.map_cons, List.map_nil, List.sum_cons, List.sum_nil, Nat.reduceAdd, Nat.reduceMul, Nat.reduceLT, Nat.reduceLeDiff, Nat.reduceEqDiff, Nat.reduceSub, decide_true, true_and, and_true, and_self, if_true, if_false, Option.toList_some, Option.toList_none, List.cons_append, List.nil_append, qsL, qlong, List.length_cons, List.length_nil, iN_L, exI, iN_add, iN_mul, iN_le, iN_lt, iN_eq, Nat.le_refl, qfN0, qfN1, uX_16, vX_16, uX_19, vX_19, uX_27, vX_27, uX_30, vX_30, uX_39, vX_39, uX_41, vX_41, uX_43, vX_43, uX_46, vX_46, uX_50, vX_50, uX_53, vX_53]
/-- longs are copied -/
theorem cpL {h : qH} {a b na nb n sp dp : Nat} (ka : kL h a na) (kb : kL h b nb) (h1 : sp + n ≤ na) (h2 : dp + n ≤ nb) : qcopy h a (iN sp) b (iN dp) (iN n) = some (sL h b (fun x => if dp ≤ x ∧ x < dp + n then hl h a (sp + (x - dp)) else hl h b x)) := by
  have z0 : ∀ m, m < 2147483648 → ¬ iN m < 0 := fun m hm => by rw [show (0 : Int32) = iN 0 from rfl, iN_lt hm (by decide)]; omega
  have a1 := ka.1.1
  have a2 := kb.1.1
  have ea := ka.val
  have eb := kb.val
  unfold qcopy
  rw [if_pos ⟨⟨⟨ka.1.2.1, ka.1.2.2⟩, ⟨kb.1.2.1, kb.1.2.2⟩⟩, z0 sp (by omega), z0 dp (by omega), z0 n (by omega)⟩, ea, eb]
  show (if (iN sp).toNatClampNeg + (iN n).toNatClampNeg ≤ na ∧ (iN dp).toNatClampNeg + (iN n).toNatClampNeg ≤ nb then some (qup h.1 b (.inl (1, nb, .inr (.inl (va_cpy (hl h a) (hl h b) (iN sp).toNatClampNeg (iN dp).toNatClampNeg (iN n).toNatClampNeg)))), h.2) else none) = _
  rw [iN_nat (show sp < 2147483648 by omega), iN_nat (show dp < 2147483648 by omega), iN_nat (show n < 2147483648 by omega), if_pos ⟨h1, h2⟩]
  have el : hlen h b = nb := by unfold hlen; rw [eb]
  unfold sL
  rw [el]
  rfl
set_option maxRecDepth 100000 in
set_option maxHeartbeats 16000000 in
theorem x_keepFacet {x : Nat} {P : Nat → Int} (s : ShX h) (v : HfX h f S Q) (hf1 : f < 104) (hx : x < 65536) (hP : ∀ t, t < 5 → hl h 24 t = lZ (P t)) : ∃ h', (∀ R, qMC (d + 1) 26 [.ref 19, .int (iN x)] h R ↔ R = (none, h')) ∧ ChX [21, 22] [(19, 6)] 0 h h' ∧ HfX h' (f + 1) (fun j => if j = f then x else S j) (fun j t => if j = f then P t else Q j t) := by
  obtain ⟨v1, v2, v3⟩ := v
  have k21 := kX_21 s
  obtain ⟨h1, e1⟩ : ∃ h1, h1 = sI h 21 (upd (hi h 21) f (iN x)) := ⟨_, rfl⟩
  have c1 : ChX [21, 22] [(19, 6)] 0 h h1 := by rw [e1]; exact ChX.rowI s k21 (by decide) (by decide)
  have s1 := c1.sh
  have w1 : qiast h 21 (iN f) (iN x) = some h1 := by rw [e1]; exact wX_21 s (by omega)
  have m1 : xi h1 19 6 = iN f := by rw [e1]; unfold xi; rw [hf_sI k21]; exact v1
  have hl1 : ∀ a, hl h1 a = hl h a := fun a => by rw [e1, hl_sI k21]
  have cp := cpL (sp := 0) (dp := f * 5) (n := 5) (kX_24 s1) (kX_22 s1) (by decide) (by omega)
  obtain ⟨h2, e2⟩ : ∃ h2, h2 = sL h1 22 (fun x => if f * 5 ≤ x ∧ x < f * 5 + 5 then hl h1 24 (0 + (x - f * 5)) else hl h1 22 x) := ⟨_, rfl⟩
  rw [← e2] at cp
  have k22 := kX_22 s1
  have c2 : ChX [21, 22] [(19, 6)] 0 h h2 := c1.trans0 (by rw [e2]; exact ChX.rowL s1 k22 (by decide) (by decide))
  have s2 := c2.sh
  have m2 : xi h2 19 6 = iN f := by rw [e2]; unfold xi; rw [hf_sL k22]; exact m1
  obtain ⟨h3, e3⟩ : ∃ h3, h3 = xV h2 19 6 (.int (iN (f + 1))) := ⟨_, rfl⟩
  have c3 : ChX [21, 22] [(19, 6)] 0 h h3 := c2.trans0 (by rw [e3]; exact ChX.setI s2 (by decide) (by decide))
  have p3 : qput h2 19 2 6 (.int (iN (f + 1))) = some h3 := by rw [e3]; exact pX_19_6 s2
  refine ⟨h3, fun R => ?_, c3, by rw [e3, xi_xV, if_pos ⟨rfl, rfl⟩], by omega, fun j hj => ⟨⟨?_, ?_⟩, fun t ht => ?_⟩⟩
  · simp (disch := first | assumption | omega) only [e26_0, e26_1, e26_4, e26_6, e26_9, e26_10, e26_13, e26_14, e26_17, e26_18, e26_19, e26_20, e26_23, e26_24, e26_25, e26_28, e26_29, e26_32, e26_33, e26_34, e26_35, e26_38, e26_39, e26_40, e26_43, e26_44, e26_45, e26_48, m26, ↓reduceIte, qg_0, qg_1, qg_2, qg_3, qg_4, qg_5, qg_6, qg_7, qg_8, qg_9, qg_10, qg_11, qg_12, qg_13, not_true_eq_false, not_false_eq_true, Nat.reduceBEq, Bool.false_eq_true, ex1, ex3, ex4, exF, qfit_i, qfit_l, qfit_r, qfit_n, qfit_b0, qfit_b1, qcat_i, qcat_r, qcat_n, qcat_l, qroom_0, qroom_c, List.map_cons, List.map_nil, List.sum_cons, List.sum_nil, Nat.reduceAdd, Nat.reduceMul, Nat.reduceLT, Nat.reduceLeDiff, Nat.reduceEqDiff, Nat.reduceSub, decide_true, true_and, and_true, and_self, if_true, if_false, Option.toList_some, Option.toList_none, List.cons_append, List.nil_append, qsL, qlong, List.length_cons, List.length_nil, iN_L, exI, iN_add, iN_mul, iN_le, iN_lt, iN_eq, Nat.le_refl, qfN0, qfN1, uX_16, vX_16, uX_19, vX_19, uX_27, vX_27, uX_30, vX_30, uX_39, vX_39, uX_41, vX_41, uX_43, vX_43, uX_46, vX_46, uX_50, vX_50, uX_53, vX_53, gX_19_6, gX_19_4, gX_19_5, gX_19_8, v1, m1, m2, show ¬ 104 ≤ f by omega, w1, cp, p3]
  · rw [e3, hi_xV (oX_19 s2), e2, hi_sL k22, e1, hi_sI, if_pos rfl]
    show (if j = f then iN x else hi h 21 j) = iN (if j = f then x else S j)
    by_cases z : j = f
    · rw [if_pos z, if_pos z]
    · rw [if_neg z, if_neg z]; exact (v3 j (by omega)).1.1
  · show (if j = f then x else S j) < 65536
    by_cases z : j = f
    · rw [if_pos z]; exact hx
    · rw [if_neg z]; exact (v3 j (by omega)).1.2
  · rw [e3, hl_xV (oX_19 s2), e2, hl_sL, if_pos rfl]
    show (if f * 5 ≤ j * 5 + t ∧ j * 5 + t < f * 5 + 5 then hl h1 24 (0 + (j * 5 + t - f * 5)) else hl h1 22 (j * 5 + t)) = lZ (if j = f then P t else Q j t)
    by_cases z : j = f
    · rw [if_pos z, if_pos (by omega), hl1, z, show 0 + (f * 5 + t - f * 5) = t by omega]; exact hP t ht
    · rw [if_neg z, if_neg (by omega), hl1]; exact (v3 j (by omega)).2 t ht
theorem gNx_up {x : Nat} : x ≤ x + gLow x := Nat.le_add_right _ _
set_option maxRecDepth 100000 in
set_option maxHeartbeats 16000000 in
theorem x_nextChoice {x m : Nat} (hx : x < 65536) (h3 : x.testBit m = true) (h4 : ∀ j, j < m → x.testBit j = false) : qMC (d + 3) 24 [.int (iN x)] h R ↔ R = (some (.int (iN (gNx x))), h) := by
  have m16 := bit16 hx h3
  have p2 : 2 ^ m ≤ 2 ^ 15 := Nat.pow_le_pow_right (by decide) (by omega)
  have lo : ∀ R, qMC (d + 2) 178 [.int (iN x)] h R ↔ R = (some (.int (iN m)), h) := fun R => x_leastOf hx h3 h4
  have e1 : iN x &&& -iN x = iN (2 ^ m) := by rw [iN_low (by omega), low_is hx h3 h4]
  have e2 := gLow_is hx h3 h4
  have e3 : gNx x = (x + 2 ^ m) ||| ((x ^^^ (x + 2 ^ m)) >>> (2 + m)) := by
    unfold gNx
    rw [e2, Nat.log2_two_pow]; rfl
  have xb : x ^^^ (x + 2 ^ m) < 2147483648 := Nat.lt_of_lt_of_le (Nat.xor_lt_two_pow (n := 17) (by omega) (by omega)) (by decide)
  have e4 := ush_N xb (show 2 + m < 32 by omega)
  have e5 : ush (iN (x ^^^ (x + 2 ^ m))) (iN (2 + m)) = ((iN (x ^^^ (x + 2 ^ m))).toUInt32 >>> ((iN (2 + m)).toUInt32 &&& (iN 31).toUInt32)).toInt32 := rfl
  rw [e3]
  simp (disch := first | assumption | omega) only [e24_0, e24_1, e24_2, e24_3, e24_4, e24_5, e24_6, e24_7, e24_8, e24_9, e24_10, e24_11, e24_12, e24_13, e24_16, e24_17, e24_18, e24_19, m24, ↓reduceIte, qg_0, qg_1, qg_2, qg_3, qg_4, qg_5, qg_6, qg_7, qg_8, qg_9, qg_10, qg_11, qg_12, qg_13, not_true_eq_false, not_false_eq_true, Nat.reduceBEq, Bool.false_eq_true, ex1, ex3, ex4, exF, qfit_i, qfit_l, qfit_r, qfit_n, qfit_b0, qfit_b1, qcat_i, qcat_r, qcat_n, qcat_l, qroom_0, qroom_c, List.map_cons, List.map_nil, List.sum_cons, List.sum_nil, Nat.reduceAdd, Nat.reduceMul, Nat.reduceLT, Nat.reduceLeDiff, Nat.reduceEqDiff, Nat.reduceSub, decide_true, true_and, and_true, and_self, if_true, if_false, Option.toList_some, Option.toList_none, List.cons_append, List.nil_append, qsL, qlong, List.length_cons, List.length_nil, iN_L, exI, iN_add, iN_mul, iN_le, iN_lt, iN_eq, Nat.le_refl, qfN0, qfN1, uX_16, vX_16, uX_19, vX_19, uX_27, vX_27, uX_30, vX_30, uX_39, vX_39, uX_41, vX_41, uX_43, vX_43, uX_46, vX_46, uX_50, vX_50, uX_53, vX_53, lo, e1, iN_xor, ← e5, e4, iN_or]
end XHULL

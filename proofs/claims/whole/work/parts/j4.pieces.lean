/-! ===== THE CLASS: copies of rows; pieces, size ===== -/
section XPIECES
variable {d : Nat} {h : qH} {bs : List bdy} {sa : Nat → Nat} {R : qRes}
/-- Arrays.copyOf, no longer than the row -/
theorem cpI {h : qH} {a b na nb n : Nat} (ka : kI h a na) (kb : kI h b nb) (h1 : n ≤ na) (h2 : n ≤ nb) : qcopy h a (iN 0) b (iN 0) (iN n) = some (sI h b (fun x => if x < n then hi h a x else hi h b x)) := by
  have z0 : ∀ m, m < 2147483648 → ¬ iN m < 0 := fun m hm => by rw [show (0 : Int32) = iN 0 from rfl, iN_lt hm (by decide)]; omega
  have a1 := ka.1.1
  have ea := ka.val
  have eb := kb.val
  unfold qcopy
  rw [if_pos ⟨⟨⟨ka.1.2.1, ka.1.2.2⟩, ⟨kb.1.2.1, kb.1.2.2⟩⟩, z0 0 (by decide), z0 0 (by decide), z0 n (by omega)⟩, ea, eb]
  dsimp only
  rw [iN_nat (show 0 < 2147483648 by decide), iN_nat (show n < 2147483648 by omega), if_pos ⟨by omega, by omega⟩]
  have el : hlen h b = nb := by unfold hlen; rw [eb]
  unfold sI
  rw [el]
  have ef : va_cpy (hi h a) (hi h b) 0 0 n = fun x => if x < n then hi h a x else hi h b x := by
    funext x
    unfold va_cpy
    by_cases z : x < n
    · rw [if_pos ⟨Nat.zero_le _, by omega⟩, if_pos z]
      congr 1
    · rw [if_neg (fun y => z (by omega)), if_neg z]
  rw [ef]
set_option maxRecDepth 100000 in
set_option maxHeartbeats 16000000 in
theorem x_copyOf {a na n : Nat} (s : ShX h) (ka : kI h a na) (hn : n ≤ na) (n1 : na < 1000) : ∃ h' r, (∀ R, qMC (d + 2) 318 [.ref a, .int (iN n)] h R ↔ R = (some (.ref r), h')) ∧ ChX [r] [] 2 h h' ∧ r = h.2.1 ∧ kI h' r n ∧ ∀ x, x < n → hi h' r x = hi h a x := by
  have la := lnI ka
  have al := ka.1.2.2
  by_cases e : n = na
  · subst e
    obtain ⟨h1, e1⟩ : ∃ h1, h1 = qnew h (.inl (0, n, .inl (hi h a))) n := ⟨_, rfl⟩
    obtain ⟨k1, k2⟩ := kI_new (h := h) (n := n) (m := n) (g := hi h a) (by omega) s
    rw [← e1] at k1 k2
    have c1 : ChX [h.2.1] [] 2 h h1 := by rw [e1]; exact ChX.new s (by decide) (by omega)
    have q1 : qints h a = some (n, hi h a) := by
      unfold qints
      rw [if_pos ⟨ka.1.2.1, al⟩, ka.val]
    have q2 : qints h1 h.2.1 = some (n, hi h a) := by
      unfold qints
      rw [if_pos ⟨k1.1.2.1, k1.1.2.2⟩, k1.val, k2]
    refine ⟨h1, h.2.1, fun R => ?_, c1, rfl, k1, fun x _ => by rw [k2]⟩
    simp (disch := first | assumption | omega) only [e318_0, e318_1, e318_2, e318_3, e318_6, e318_7, e318_10, e318_13, e318_13N, e318_14, e318_15, e318_17, e318_18, e318_19, e318_20, e318_21, e318_22, e318_23, e318_24, e318_25, e318_28, e318_31, e318_32, e318_32N, m318, ↓reduceIte, qg_0, qg_1, qg_2, qg_3, qg_4, qg_5, qg_6, qg_7, qg_8, qg_9, qg_10, qg_11, qg_12, qg_13, not_true_eq_false, not_false_eq_true, Nat.reduceBEq, Bool.false_eq_true, ex1, ex3, ex4, exF, qfit_i, qfit_l, qfit_r, qfit_n, qfit_b0, qfit_b1, qcat_i, qcat_r, qcat_n, qcat_l, qroom_0, qroom_c, List.map_cons, List.map_nil, List.sum_cons, List.sum_nil, Nat.reduceAdd, Nat.reduceMul, Nat.reduceLT, Nat.reduceLeDiff, Nat.reduceEqDiff, Nat.reduceSub, decide_true, true_and, and_true, and_self, if_true, if_false, Option.toList_some, Option.toList_none, List.cons_append, List.nil_append, qsL, qlong, List.length_cons, List.length_nil, iN_L, exI, iN_add, iN_mul, iN_le, iN_lt, iN_eq, Nat.le_refl, qfN0, qfN1, uX_16, vX_16, uX_19, vX_19, uX_27, vX_27, uX_30, vX_30, uX_39, vX_39, uX_41, vX_41, uX_43, vX_43, uX_46, vX_46, uX_50, vX_50, uX_53, vX_53, la, q1, ← e1, q2]
    constructor
    · rintro ⟨v, hv, hR⟩
      cases hv
      rw [← e1, q2] at hR
      obtain ⟨w, -, hw⟩ := hR
      exact hw
    · intro hR
      exact ⟨_, rfl, by rw [← e1]; exact ⟨_, q2, hR⟩⟩
  · obtain ⟨z1, z2⟩ := nN n (by omega)
    obtain ⟨h1, e1⟩ : ∃ h1, h1 = qnew h (.inl (0, n, .inl (fun _ => iN 0))) n := ⟨_, rfl⟩
    obtain ⟨k1, k2⟩ := kI_new (h := h) (n := n) (m := n) (g := fun _ => iN 0) (by omega) s
    rw [← e1] at k1 k2
    have c1 : ChX [h.2.1] [] 2 h h1 := by rw [e1]; exact ChX.new s (by decide) (by omega)
    have s1 := c1.sh
    have ka1 : kI h1 a na := ka.sm c1.1.2.1 (by rw [e1]; exact nw_old al)
    have la1 := lnI ka1
    have hia : hi h1 a = hi h a := hi_at (by rw [e1]; exact nw_old al)
    have mn : ∀ R, qMC (d + 1) 314 [.int (iN na), .int (iN n)] h1 R ↔ R = (some (.int (iN n)), h1) := fun R => by
      simp (disch := first | assumption | omega) only [e314_0, e314_1, e314_2, e314_5, e314_6, e314_9, e314_10, m314, ↓reduceIte, qg_0, qg_1, qg_2, qg_3, qg_4, qg_5, qg_6, qg_7, qg_8, qg_9, qg_10, qg_11, qg_12, qg_13, not_true_eq_false, not_false_eq_true, Nat.reduceBEq, Bool.false_eq_true, ex1, ex3, ex4, exF, qfit_i, qfit_l, qfit_r, qfit_n, qfit_b0, qfit_b1, qcat_i, qcat_r, qcat_n, qcat_l, qroom_0, qroom_c, List.map_cons, List.map_nil, List.sum_cons, List.sum_nil, Nat.reduceAdd, Nat.reduceMul, Nat.reduceLT, Nat.reduceLeDiff, Nat.reduceEqDiff, Nat.reduceSub, decide_true, true_and, and_true, and_self, if_true, if_false, Option.toList_some, Option.toList_none, List.cons_append, List.nil_append, qsL, qlong, List.length_cons, List.length_nil, iN_L, exI, iN_add, iN_mul, iN_le, iN_lt, iN_eq, Nat.le_refl, qfN0, qfN1, uX_16, vX_16, uX_19, vX_19, uX_27, vX_27, uX_30, vX_30, uX_39, vX_39, uX_41, vX_41, uX_43, vX_43, uX_46, vX_46, uX_50, vX_50, uX_53, vX_53, show n < na by omega]
    have cp := cpI (n := n) ka1 k1 (by omega) (Nat.le_refl _)
    obtain ⟨h2, e2⟩ : ∃ h2, h2 = sI h1 h.2.1 (fun x => if x < n then hi h1 a x else hi h1 h.2.1 x) := ⟨_, rfl⟩
    rw [← e2] at cp
    have c2 : ChX [h.2.1] [] 2 h h2 := c1.trans (m := 0) (by rw [e2]; exact ChX.rowI s1 k1 (by simp) (by have := ge97 s; omega))
    refine ⟨h2, h.2.1, fun R => ?_, c2, rfl, by rw [e2]; exact (hKd_sI k1).2.1 _ _ k1, fun x hx => by rw [e2, hi_sI, if_pos rfl, if_pos hx, hia]⟩
    simp (disch := first | assumption | omega) only [e318_0, e318_1, e318_2, e318_3, e318_6, e318_7, e318_10, e318_13, e318_13N, e318_14, e318_15, e318_17, e318_18, e318_19, e318_20, e318_21, e318_22, e318_23, e318_24, e318_25, e318_28, e318_31, e318_32, e318_32N, m318, ↓reduceIte, qg_0, qg_1, qg_2, qg_3, qg_4, qg_5, qg_6, qg_7, qg_8, qg_9, qg_10, qg_11, qg_12, qg_13, not_true_eq_false, not_false_eq_true, Nat.reduceBEq, Bool.false_eq_true, ex1, ex3, ex4, exF, qfit_i, qfit_l, qfit_r, qfit_n, qfit_b0, qfit_b1, qcat_i, qcat_r, qcat_n, qcat_l, qroom_0, qroom_c, List.map_cons, List.map_nil, List.sum_cons, List.sum_nil, Nat.reduceAdd, Nat.reduceMul, Nat.reduceLT, Nat.reduceLeDiff, Nat.reduceEqDiff, Nat.reduceSub, decide_true, true_and, and_true, and_self, if_true, if_false, Option.toList_some, Option.toList_none, List.cons_append, List.nil_append, qsL, qlong, List.length_cons, List.length_nil, iN_L, exI, iN_add, iN_mul, iN_le, iN_lt, iN_eq, Nat.le_refl, qfN0, qfN1, uX_16, vX_16, uX_19, vX_19, uX_27, vX_27, uX_30, vX_30, uX_39, vX_39, uX_41, vX_41, uX_43, vX_43, uX_46, vX_46, uX_50, vX_50, uX_53, vX_53, la, e, z1, z2, or_self, show ¬ (n < 0 ∨ 1000000 < n) by omega, ← e1, la1, mn, cp]
end XPIECES

/-! ===== THE CLASS: countOnto ===== -/
section XCOUNT
variable {d n m lim gr : Nat} {h : qH} {A B : List Nat}
theorem lt_bit {x k c : Nat} (hx : x < 2 ^ k) (hc : x.testBit c = true) : c < k := Classical.byContradiction fun z => by
  rw [Nat.testBit_lt_two_pow (Nat.lt_of_lt_of_le hx (Nat.pow_le_pow_right (by decide) (by omega)))] at hc
  cases hc
theorem XO_97 {x : Nat} (hx : 97 ≤ x) : x ∉ XO := fun z => by have := (by decide : ∀ x ∈ XO, x < 97) x z; omega
set_option maxRecDepth 100000 in
set_option maxHeartbeats 32000000 in
theorem x_countOn (s : ShX h) (v : MaX h n A) (h0 : ∀ x, x ∈ A → 0 < x) (nd : A.Nodup) (kg : kI h gr B.length) (g97 : 97 ≤ gr) (g8 : B.length ≤ 208) (gv : ∀ k, k < B.length → hi h gr k = iN (B.getD k 0) ∧ B.getD k 0 < 65536) (ga : ∀ a b, a < b → b < B.length → B.getD a 0 < B.getD b 0) (hm : m ≤ 16) (hl : 0 < lim ∧ lim ≤ 1000000) : ∃ h', (∀ R, qMC (d + 24) 52 [.ref 30, .int (iN m), .ref gr, .int (iN lim)] h R ↔ R = (some (.int (iN (if m = n ∧ B.length = A.length then capN lim (rnT n A B) else 0))), h')) ∧ ChX [32, 33, 34, 35, 36, 37, 38] [(30, 5), (30, 6)] 0 h h' := by
  obtain ⟨⟨n16, l104⟩, v1, v2, v3⟩ := id v
  have ln := lnI kg
  by_cases e0 : m = n
  · by_cases el : B.length = A.length
    · rw [if_pos ⟨e0, el⟩, e0]
      have A16 : ∀ t, t < A.length → A.getD t 0 < 65536 := fun t ht => Nat.lt_of_lt_of_le (v3 t ht).2 (Nat.pow_le_pow_right (by decide) n16)
      have hA : ∀ x, x ∈ A → x < 65536 := fun x hx => by obtain ⟨t, ht, et⟩ := mem_getD0 hx; rw [← et]; exact A16 t ht
      have hAn : ∀ x, x ∈ A → ∀ c, x.testBit c = true → c < n := fun x hx c hc => by obtain ⟨t, ht, et⟩ := mem_getD0 hx; rw [← et] at hc; exact lt_bit (v3 t ht).2 hc
      have gx := XO_97 g97
      obtain ⟨h1, e1⟩ : ∃ h1, h1 = xV h 30 5 (.ref gr) := ⟨_, rfl⟩
      have p1 : qput h 30 4 5 (.ref gr) = some h1 := by rw [e1]; exact pX_30_5 s
      have c1 : ChX [32, 33, 34, 35, 36, 37, 38] [(30, 5), (30, 6)] 0 h h1 := by rw [e1]; exact ChX.setR s (by decide) (by decide)
      have f1 : hf h1 30 5 = .ref gr := by rw [e1, hf_xV, if_pos ⟨rfl, rfl⟩]
      have s1 := c1.sh
      have v' := v.ch c1 s (by decide) (by decide) (by decide)
      have gn : ∀ X : List Nat, (∀ x ∈ X, x < 97) → gr ∉ X := fun X hX z => by have := hX gr z; omega
      obtain ⟨kg1, hg1⟩ := chI c1 kg (gn _ (by decide)) s
      obtain ⟨h2, e2⟩ : ∃ h2, h2 = xV h1 30 6 (.int (iN lim)) := ⟨_, rfl⟩
      have p2 : qput h1 30 4 6 (.int (iN lim)) = some h2 := by rw [e2]; exact pX_30_6 s1
      have b2 : ChX [32, 33, 34, 36, 37, 38] [(30, 6)] 0 h1 h2 := by rw [e2]; exact ChX.setI s1 (by decide) (by decide)
      have x6 : xi h2 30 6 = iN lim := by rw [e2, xi_xV, if_pos ⟨rfl, rfl⟩]
      have s2 := b2.sh
      obtain ⟨-, w1, w2, w3⟩ := v'.ch b2 s1 (by decide) (by decide) (by decide)
      obtain ⟨G, r3, g3⟩ := x_share (d := d + 20) (q := 32) (fr := 31) (nf := 104) (L := A) s2 (kX_32 s2) (by decide) (by decide) (kX_31 s2) (by decide) ⟨l104, by omega⟩ w2 (fun t ht => ⟨(w3 t ht).1, A16 t ht⟩)
      obtain ⟨h3, e3⟩ : ∃ h3, h3 = sI h2 32 G := ⟨_, rfl⟩
      rw [← e3] at r3
      have b3 : ChX [32, 33, 34, 36, 37, 38] [(30, 6)] 0 h1 h3 := b2.trans0 (by rw [e3]; exact ChX.rowI s2 (kX_32 s2) (by decide) (by decide))
      have s3 := b3.sh
      obtain ⟨kg3, hg3⟩ := chI b3 kg1 (gn _ (by decide)) s1
      obtain ⟨-, w1', w2', -⟩ := v'.ch b3 s1 (by decide) (by decide) (by decide)
      obtain ⟨G', r4, g4⟩ := x_share (d := d + 20) (q := 33) (fr := gr) (nf := B.length) (L := B) s3 (kX_33 s3) (by decide) (by decide) kg3 (by omega) ⟨Nat.le_refl _, g8⟩ (by rw [el]; exact w2') (fun t ht => by rw [hg3, hg1]; exact gv t ht)
      obtain ⟨h4, e4⟩ : ∃ h4, h4 = sI h3 33 G' := ⟨_, rfl⟩
      rw [← e4] at r4
      have b4 : ChX [32, 33, 34, 36, 37, 38] [(30, 6)] 0 h1 h4 := b3.trans0 (by rw [e4]; exact ChX.rowI s3 (kX_33 s3) (by decide) (by decide))
      have s4 := b4.sh
      have v4 := v'.ch b4 s1 (by decide) (by decide) (by decide)
      obtain ⟨h5, o, st, cp, r5, c5, O, i34, i37, i36⟩ := x_chooseOrder (d := d + 19) s4 v4 h0
      have b5 : ChX [32, 33, 34, 36, 37, 38] [(30, 6)] 0 h1 h5 := b4.trans0 (c5.mono (by decide) (by decide) (Nat.le_refl _))
      have s5 := b5.sh
      obtain ⟨kg5, hg5⟩ := chI b5 kg1 (gn _ (by decide)) s1
      have v5 := v4.ch c5 s4 (by decide) (by decide) (by decide)
      have x65 : xi h5 30 6 = iN lim := by
        rw [c5.xi (by decide) (by decide), e4]; unfold xi; rw [hf_sI (kX_33 s3), e3, hf_sI (kX_32 s2)]; exact x6
      have V : OrV h5 n lim gr A B o st cp := ⟨⟨n16, l104, el⟩, ⟨i34, i37, i36⟩, ⟨fun a b ha hb => by
        rw [c5.hi (by decide) (by decide) (s4.lt (by decide)), e4, hi_sI, if_neg (by decide), e3, hi_sI, if_pos rfl]; exact g3 a b ha hb, fun a b ha hb => by
        rw [c5.hi (by decide) (by decide) (s4.lt (by decide)), e4, hi_sI, if_pos rfl, ← el]; exact g4 a b ha hb⟩, v5.2.1, ⟨x65, hl.2⟩, (b5.hf (by decide) (by decide)).trans f1, kg5, g8, fun k hk => by rw [hg5, hg1]; exact gv k hk, ga⟩
      obtain ⟨h6, r6, c6, -⟩ := x_extend (d := d + 1 + (16 - n)) s5 V O hA hAn nd (by omega) gx n 0 (Nat.zero_add n) (fun _ => 0) 0 0 h5 (ChX.refl s5) (fun e he => absurd he (Nat.not_lt_zero e)) (fun a b _ hb => absurd hb (Nat.not_lt_zero b)) (fun c => ⟨fun z => absurd z (by rw [Nat.zero_testBit]; decide), fun ⟨e, he, _⟩ => absurd he (Nat.not_lt_zero e)⟩) (cmp_0 h0 hA) hl.1
      have r6' : ∀ R, qMC (d + 23) 56 [.ref 30, .int (iN 0), .int (iN 0), .int (iN 0)] h5 R ↔ R = (some (.int (iN (capN lim (rnT n A B)))), h6) := fun R => by
        have := r6 R
        rw [show d + 1 + (16 - n) + 6 + n = d + 23 by omega, Nat.zero_add, rnC_0] at this
        exact this
      refine ⟨h6, fun R => ?_, (c1.trans0 (b5.mono (by decide) (by decide) (Nat.le_refl _))).trans0 (c6.mono (by decide) (by intro _ z; cases z) (Nat.le_refl _))⟩
      simp (disch := first | assumption | omega) only [e52_0, e52_1, e52_2, e52_5, e52_8, e52_9, e52_10, e52_11, e52_14, e52_17, e52_18, e52_19, e52_20, e52_21, e52_24, e52_25, e52_26, e52_29, e52_30, e52_31, e52_34, e52_35, e52_38, e52_41, e52_42, e52_43, e52_44, e52_47, e52_50, e52_51, e52_54, e52_55, e52_56, e52_57, e52_58, e52_61, m52, ↓reduceIte, qg_0, qg_1, qg_2, qg_3, qg_4, qg_5, qg_6, qg_7, qg_8, qg_9, qg_10, qg_11, qg_12, qg_13, not_true_eq_false, not_false_eq_true, Nat.reduceBEq, Bool.false_eq_true, ex1, ex3, ex4, exF, qfit_i, qfit_l, qfit_r, qfit_n, qfit_b0, qfit_b1, qcat_i, qcat_r, qcat_n, qcat_l, qroom_0, qroom_c, List.map_cons, List.map_nil, List.sum_cons, List.sum_nil, Nat.reduceAdd, Nat.reduceMul, Nat.reduceLT, Nat.reduceLeDiff, Nat.reduceEqDiff, Nat.reduceSub, decide_true, true_and, and_true, and_self, if_true, if_false, Option.toList_some, Option.toList_none, List.cons_append, List.nil_append, qsL, qlong, List.length_cons, List.length_nil, iN_L, exI, iN_add, iN_mul, iN_le, iN_lt, iN_eq, Nat.le_refl, qfN0, qfN1, uX_16, vX_16, uX_19, vX_19, uX_27, vX_27, uX_30, vX_30, uX_39, vX_39, uX_41, vX_41, uX_43, vX_43, uX_46, vX_46, uX_50, vX_50, uX_53, vX_53, gX_30_2, v1, ln, gX_30_1, v2, el, p1, p2, gX_30_0, gX_30_3, gX_30_4, r3, r4, r5, r6']
    · refine ⟨h, fun R => ?_, ChX.refl s⟩
      rw [if_neg fun z => el z.2, e0]
      simp (disch := first | assumption | omega) only [e52_0, e52_1, e52_2, e52_5, e52_8, e52_9, e52_10, e52_11, e52_14, e52_17, e52_18, e52_19, e52_20, e52_21, e52_24, e52_25, e52_26, e52_29, e52_30, e52_31, e52_34, e52_35, e52_38, e52_41, e52_42, e52_43, e52_44, e52_47, e52_50, e52_51, e52_54, e52_55, e52_56, e52_57, e52_58, e52_61, m52, ↓reduceIte, qg_0, qg_1, qg_2, qg_3, qg_4, qg_5, qg_6, qg_7, qg_8, qg_9, qg_10, qg_11, qg_12, qg_13, not_true_eq_false, not_false_eq_true, Nat.reduceBEq, Bool.false_eq_true, ex1, ex3, ex4, exF, qfit_i, qfit_l, qfit_r, qfit_n, qfit_b0, qfit_b1, qcat_i, qcat_r, qcat_n, qcat_l, qroom_0, qroom_c, List.map_cons, List.map_nil, List.sum_cons, List.sum_nil, Nat.reduceAdd, Nat.reduceMul, Nat.reduceLT, Nat.reduceLeDiff, Nat.reduceEqDiff, Nat.reduceSub, decide_true, true_and, and_true, and_self, if_true, if_false, Option.toList_some, Option.toList_none, List.cons_append, List.nil_append, qsL, qlong, List.length_cons, List.length_nil, iN_L, exI, iN_add, iN_mul, iN_le, iN_lt, iN_eq, Nat.le_refl, qfN0, qfN1, uX_16, vX_16, uX_19, vX_19, uX_27, vX_27, uX_30, vX_30, uX_39, vX_39, uX_41, vX_41, uX_43, vX_43, uX_46, vX_46, uX_50, vX_50, uX_53, vX_53, gX_30_2, v1, ln, gX_30_1, v2, el]
  · refine ⟨h, fun R => ?_, ChX.refl s⟩
    rw [if_neg fun z => e0 z.1]
    simp (disch := first | assumption | omega) only [e52_0, e52_1, e52_2, e52_5, e52_8, e52_9, e52_10, e52_11, e52_14, e52_17, e52_18, e52_19, e52_20, e52_21, e52_24, e52_25, e52_26, e52_29, e52_30, e52_31, e52_34, e52_35, e52_38, e52_41, e52_42, e52_43, e52_44, e52_47, e52_50, e52_51, e52_54, e52_55, e52_56, e52_57, e52_58, e52_61, m52, ↓reduceIte, qg_0, qg_1, qg_2, qg_3, qg_4, qg_5, qg_6, qg_7, qg_8, qg_9, qg_10, qg_11, qg_12, qg_13, not_true_eq_false, not_false_eq_true, Nat.reduceBEq, Bool.false_eq_true, ex1, ex3, ex4, exF, qfit_i, qfit_l, qfit_r, qfit_n, qfit_b0, qfit_b1, qcat_i, qcat_r, qcat_n, qcat_l, qroom_0, qroom_c, List.map_cons, List.map_nil, List.sum_cons, List.sum_nil, Nat.reduceAdd, Nat.reduceMul, Nat.reduceLT, Nat.reduceLeDiff, Nat.reduceEqDiff, Nat.reduceSub, decide_true, true_and, and_true, and_self, if_true, if_false, Option.toList_some, Option.toList_none, List.cons_append, List.nil_append, qsL, qlong, List.length_cons, List.length_nil, iN_L, exI, iN_add, iN_mul, iN_le, iN_lt, iN_eq, Nat.le_refl, qfN0, qfN1, uX_16, vX_16, uX_19, vX_19, uX_27, vX_27, uX_30, vX_30, uX_39, vX_39, uX_41, vX_41, uX_43, vX_43, uX_46, vX_46, uX_50, vX_50, uX_53, vX_53, gX_30_2, v1, e0]
end XCOUNT

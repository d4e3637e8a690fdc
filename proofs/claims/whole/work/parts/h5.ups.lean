/-! ===== THE CLASS: rows filled; ups ===== -/
section XUPS
variable {d : Nat} {h : qH} {bs : List bdy} {sa : Nat → Nat} {R : qRes} {tl : pt4}
set_option maxRecDepth 100000 in
theorem x_fillI {a n : Nat} {v : Int32} (k : kI h a n) : qMC (d + 1) 317 [.ref a, .int v] h R ↔ R = (none, sI h a (fun c => if c < n then v else hi h a c)) := by
  have hn := k.1.1
  have ln := lnI k
  have r0 : qMC (d + 1) 317 [.ref a, .int v] h R ↔ qEv d 4 qk_317 5 [some (.ref a), some (.int v), some (.int (iN 0)), some (.int (iN n))] [] (sI h a (fun c => if c < 0 then v else hi h a c)) R := by
    rw [show (fun c => if c < 0 then v else hi h a c) = hi h a from funext fun c => if_neg (Nat.not_lt_zero c), sI_id k]
    simp (disch := first | assumption | omega) only [e317_0, e317_1, e317_2, e317_3, e317_4, e317_6, e317_7, e317_10, e317_11, e317_12, e317_13, e317_14, e317_17, e317_20, m317, ↓reduceIte, qg_0, qg_1, qg_2, qg_3, qg_4, qg_5, qg_6, qg_7, qg_8, qg_9, qg_10, qg_11, qg_12, qg_13, not_true_eq_false, not_false_eq_true, Nat.reduceBEq, Bool.false_eq_true, ex1, ex3, ex4, exF, qfit_i, qfit_l, qfit_r, qfit_n, qfit_b0, qfit_b1, qcat_i, qcat_r, qcat_n, qcat_l, qroom_0, qroom_c, List.map_cons, List.map_nil, List.sum_cons, List.sum_nil, Nat.reduceAdd, Nat.reduceMul, Nat.reduceLT, Nat.reduceLeDiff, Nat.reduceEqDiff, Nat.reduceSub, decide_true, true_and, and_true, and_self, if_true, if_false, Option.toList_some, Option.toList_none, List.cons_append, List.nil_append, qsL, qlong, List.length_cons, List.length_nil, iN_L, exI, iN_add, iN_mul, iN_le, iN_lt, iN_eq, Nat.le_refl, qfN0, qfN1, uX_16, vX_16, uX_19, vX_19, uX_27, vX_27, uX_30, vX_30, uX_39, vX_39, uX_41, vX_41, uX_43, vX_43, uX_46, vX_46, uX_50, vX_50, uX_53, vX_53, ln]
  rw [r0]
  refine Iff.trans (loop_up (n := n) (L := fun t => [some (.ref a), some (.int v), some (.int (iN t)), some (.int (iN n))]) (H := fun t => sI h a (fun c => if c < t then v else hi h a c)) ?_) ?_
  · intro t ht
    try dsimp only
    have w1 : qiast (sI h a (fun c => if c < t then v else hi h a c)) a (iN t) v = some (sI h a (fun c => if c < t + 1 then v else hi h a c)) := by
      rw [wrI ((hKd_sI k).2.1 _ _ k) ht, sI_sI, hi_sI, if_pos rfl]
      congr 2
      funext c
      rw [upd_at]
      by_cases e : c = t
      · rw [if_pos e, if_pos (by omega)]
      · rw [if_neg e]
        by_cases e2 : c < t
        · rw [if_pos e2, if_pos (by omega)]
        · rw [if_neg e2, if_neg (by omega)]
    rw [e317_5]
    simp (disch := first | assumption | omega) only [e317_0, e317_1, e317_2, e317_3, e317_4, e317_6, e317_7, e317_10, e317_11, e317_12, e317_13, e317_14, e317_17, e317_20, m317, ↓reduceIte, qg_0, qg_1, qg_2, qg_3, qg_4, qg_5, qg_6, qg_7, qg_8, qg_9, qg_10, qg_11, qg_12, qg_13, not_true_eq_false, not_false_eq_true, Nat.reduceBEq, Bool.false_eq_true, ex1, ex3, ex4, exF, qfit_i, qfit_l, qfit_r, qfit_n, qfit_b0, qfit_b1, qcat_i, qcat_r, qcat_n, qcat_l, qroom_0, qroom_c, List.map_cons, List.map_nil, List.sum_cons, List.sum_nil, Nat.reduceAdd, Nat.reduceMul, Nat.reduceLT, Nat.reduceLeDiff, Nat.reduceEqDiff, Nat.reduceSub, decide_true, true_and, and_true, and_self, if_true, if_false, Option.toList_some, Option.toList_none, List.cons_append, List.nil_append, qsL, qlong, List.length_cons, List.length_nil, iN_L, exI, iN_add, iN_mul, iN_le, iN_lt, iN_eq, Nat.le_refl, qfN0, qfN1, uX_16, vX_16, uX_19, vX_19, uX_27, vX_27, uX_30, vX_30, uX_39, vX_39, uX_41, vX_41, uX_43, vX_43, uX_46, vX_46, uX_50, vX_50, uX_53, vX_53, show ¬ n ≤ t by omega, w1]
  · try dsimp only
    rw [e317_5]
    simp (disch := first | assumption | omega) only [e317_0, e317_1, e317_2, e317_3, e317_4, e317_6, e317_7, e317_10, e317_11, e317_12, e317_13, e317_14, e317_17, e317_20, m317, ↓reduceIte, qg_0, qg_1, qg_2, qg_3, qg_4, qg_5, qg_6, qg_7, qg_8, qg_9, qg_10, qg_11, qg_12, qg_13, not_true_eq_false, not_false_eq_true, Nat.reduceBEq, Bool.false_eq_true, ex1, ex3, ex4, exF, qfit_i, qfit_l, qfit_r, qfit_n, qfit_b0, qfit_b1, qcat_i, qcat_r, qcat_n, qcat_l, qroom_0, qroom_c, List.map_cons, List.map_nil, List.sum_cons, List.sum_nil, Nat.reduceAdd, Nat.reduceMul, Nat.reduceLT, Nat.reduceLeDiff, Nat.reduceEqDiff, Nat.reduceSub, decide_true, true_and, and_true, and_self, if_true, if_false, Option.toList_some, Option.toList_none, List.cons_append, List.nil_append, qsL, qlong, List.length_cons, List.length_nil, iN_L, exI, iN_add, iN_mul, iN_le, iN_lt, iN_eq, Nat.le_refl, qfN0, qfN1, uX_16, vX_16, uX_19, vX_19, uX_27, vX_27, uX_30, vX_30, uX_39, vX_39, uX_41, vX_41, uX_43, vX_43, uX_46, vX_46, uX_50, vX_50, uX_53, vX_53]
set_option maxRecDepth 100000 in
theorem x_fillL {a n : Nat} {v : Int64} (k : kL h a n) : qMC (d + 1) 316 [.ref a, .long v] h R ↔ R = (none, sL h a (fun c => if c < n then v else hl h a c)) := by
  have hn := k.1.1
  have ln := lnL k
  have r0 : qMC (d + 1) 316 [.ref a, .long v] h R ↔ qEv d 4 qk_316 6 [some (.ref a), some (.long v), none, some (.int (iN 0)), some (.int (iN n))] [] (sL h a (fun c => if c < 0 then v else hl h a c)) R := by
    rw [show (fun c => if c < 0 then v else hl h a c) = hl h a from funext fun c => if_neg (Nat.not_lt_zero c), sL_id k]
    simp (disch := first | assumption | omega) only [e316_0, e316_1, e316_2, e316_3, e316_4, e316_7, e316_9, e316_12, e316_13, e316_14, e316_15, e316_16, e316_19, e316_22, m316, ↓reduceIte, qg_0, qg_1, qg_2, qg_3, qg_4, qg_5, qg_6, qg_7, qg_8, qg_9, qg_10, qg_11, qg_12, qg_13, not_true_eq_false, not_false_eq_true, Nat.reduceBEq, Bool.false_eq_true, ex1, ex3, ex4, exF, qfit_i, qfit_l, qfit_r, qfit_n, qfit_b0, qfit_b1, qcat_i, qcat_r, qcat_n, qcat_l, qroom_0, qroom_c, List.map_cons, List.map_nil, List.sum_cons, List.sum_nil, Nat.reduceAdd, Nat.reduceMul, Nat.reduceLT, Nat.reduceLeDiff, Nat.reduceEqDiff, Nat.reduceSub, decide_true, true_and, and_true, and_self, if_true, if_false, Option.toList_some, Option.toList_none, List.cons_append, List.nil_append, qsL, qlong, List.length_cons, List.length_nil, iN_L, exI, iN_add, iN_mul, iN_le, iN_lt, iN_eq, Nat.le_refl, qfN0, qfN1, uX_16, vX_16, uX_19, vX_19, uX_27, vX_27, uX_30, vX_30, uX_39, vX_39, uX_41, vX_41, uX_43, vX_43, uX_46, vX_46, uX_50, vX_50, uX_53, vX_53, ln]
  rw [r0]
  refine Iff.trans (loop_up (n := n) (L := fun t => [some (.ref a), some (.long v), none, some (.int (iN t)), some (.int (iN n))]) (H := fun t => sL h a (fun c => if c < t then v else hl h a c)) ?_) ?_
  · intro t ht
    try dsimp only
    have w1 : qlast (sL h a (fun c => if c < t then v else hl h a c)) a (iN t) v = some (sL h a (fun c => if c < t + 1 then v else hl h a c)) := by
      rw [wrL ((hKd_sL k).2.2.1 _ _ k) ht, sL_sL, hl_sL, if_pos rfl]
      congr 2
      funext c
      show (if c = t then v else if c < t then v else hl h a c) = _
      by_cases e : c = t
      · rw [if_pos e, if_pos (by omega)]
      · rw [if_neg e]
        by_cases e2 : c < t
        · rw [if_pos e2, if_pos (by omega)]
        · rw [if_neg e2, if_neg (by omega)]
    rw [e316_6]
    simp (disch := first | assumption | omega) only [e316_0, e316_1, e316_2, e316_3, e316_4, e316_7, e316_9, e316_12, e316_13, e316_14, e316_15, e316_16, e316_19, e316_22, m316, ↓reduceIte, qg_0, qg_1, qg_2, qg_3, qg_4, qg_5, qg_6, qg_7, qg_8, qg_9, qg_10, qg_11, qg_12, qg_13, not_true_eq_false, not_false_eq_true, Nat.reduceBEq, Bool.false_eq_true, ex1, ex3, ex4, exF, qfit_i, qfit_l, qfit_r, qfit_n, qfit_b0, qfit_b1, qcat_i, qcat_r, qcat_n, qcat_l, qroom_0, qroom_c, List.map_cons, List.map_nil, List.sum_cons, List.sum_nil, Nat.reduceAdd, Nat.reduceMul, Nat.reduceLT, Nat.reduceLeDiff, Nat.reduceEqDiff, Nat.reduceSub, decide_true, true_and, and_true, and_self, if_true, if_false, Option.toList_some, Option.toList_none, List.cons_append, List.nil_append, qsL, qlong, List.length_cons, List.length_nil, iN_L, exI, iN_add, iN_mul, iN_le, iN_lt, iN_eq, Nat.le_refl, qfN0, qfN1, uX_16, vX_16, uX_19, vX_19, uX_27, vX_27, uX_30, vX_30, uX_39, vX_39, uX_41, vX_41, uX_43, vX_43, uX_46, vX_46, uX_50, vX_50, uX_53, vX_53, show ¬ n ≤ t by omega, w1]
  · try dsimp only
    rw [e316_6]
    simp (disch := first | assumption | omega) only [e316_0, e316_1, e316_2, e316_3, e316_4, e316_7, e316_9, e316_12, e316_13, e316_14, e316_15, e316_16, e316_19, e316_22, m316, ↓reduceIte, qg_0, qg_1, qg_2, qg_3, qg_4, qg_5, qg_6, qg_7, qg_8, qg_9, qg_10, qg_11, qg_12, qg_13, not_true_eq_false, not_false_eq_true, Nat.reduceBEq, Bool.false_eq_true, ex1, ex3, ex4, exF, qfit_i, qfit_l, qfit_r, qfit_n, qfit_b0, qfit_b1, qcat_i, qcat_r, qcat_n, qcat_l, qroom_0, qroom_c, List.map_cons, List.map_nil, List.sum_cons, List.sum_nil, Nat.reduceAdd, Nat.reduceMul, Nat.reduceLT, Nat.reduceLeDiff, Nat.reduceEqDiff, Nat.reduceSub, decide_true, true_and, and_true, and_self, if_true, if_false, Option.toList_some, Option.toList_none, List.cons_append, List.nil_append, qsL, qlong, List.length_cons, List.length_nil, iN_L, exI, iN_add, iN_mul, iN_le, iN_lt, iN_eq, Nat.le_refl, qfN0, qfN1, uX_16, vX_16, uX_19, vX_19, uX_27, vX_27, uX_30, vX_30, uX_39, vX_39, uX_41, vX_41, uX_43, vX_43, uX_46, vX_46, uX_50, vX_50, uX_53, vX_53]
theorem lw_fold {ht : Nat → Int} {dn : Nat → Bool} : ∀ k, (pickN (fun c => !dn c) k = [] ∧ lwN ht dn k = none) ∨ ∃ m0 ms, pickN (fun c => !dn c) k = m0 :: ms ∧ lwN ht dn k = some ((pickN (fun c => !dn c) k).foldl (fun b m => if ht m < ht b then m else b) m0)
  | 0 => Or.inl ⟨rfl, rfl⟩
  | k + 1 => by
    rcases lw_fold (ht := ht) (dn := dn) k with ⟨h1, h2⟩ | ⟨m0, ms, h1, h2⟩
    · cases q : dn k with
      | true =>
        refine Or.inl ⟨?_, ?_⟩
        · rw [pickN, q, h1]; rfl
        · rw [lwN, if_neg (fun z => by rw [q] at z; cases z.1), h2]
      | false =>
        refine Or.inr ⟨k, [], ?_, ?_⟩
        · rw [pickN, q, h1]; rfl
        · rw [foldl_pick, lwN, if_pos ⟨q, by rw [h2]; rfl⟩, q, h1]
          show some k = some (if (!false) = true then (if ht k < ht k then k else k) else k)
          simp
    · cases q : dn k with
      | true =>
        refine Or.inr ⟨m0, ms, ?_, ?_⟩
        · rw [pickN, q, h1]; rfl
        · rw [foldl_pick, lwN, if_neg (fun z => by rw [q] at z; cases z.1), h2, q]
          rfl
      | false =>
        refine Or.inr ⟨m0, ms ++ [k], ?_, ?_⟩
        · rw [pickN, q, h1]; rfl
        · rw [foldl_pick, lwN, h2, q]
          obtain ⟨b, eb⟩ : ∃ b, b = (pickN (fun c => !dn c) k).foldl (fun b m => if ht m < ht b then m else b) m0 := ⟨_, rfl⟩
          rw [← eb]
          show (if false = false ∧ decide (ht k < ht b) = true then some k else some b) = some (if (!false) = true then (if ht k < ht b then k else b) else b)
          by_cases z : ht k < ht b
          · rw [if_pos ⟨rfl, decide_eq_true z⟩, if_pos z]; rfl
          · rw [if_neg (fun y => z (of_decide_eq_true y.2)), if_neg z]; rfl
set_option maxRecDepth 100000 in
set_option maxHeartbeats 16000000 in
theorem x_lowest {i x : Nat} {dn : Nat → Bool} (s : ShX h) (X : BsX h bs sa) (tv : TlX h tl) (hi' : i < bs.length) (hx : lwN (htZ tl (cnr bs i) (dmn bs i)) dn (cnr bs i).length = some x) : qMC (d + 3) 128 [.ref 43, .ref (sa i), .int (iN (mask (fun c => !dn c) (cnr bs i).length))] h R ↔ R = (some (.int (iN x)), h) := by
  have hh : ∀ c, c < (cnr bs i).length → ∀ R, qMC (d + 2) 124 [.ref 43, .ref (sa i), .int (iN c)] h R ↔ R = (some (.int (iZ (htZ tl (cnr bs i) (dmn bs i) c))), h) := fun c hc R => x_height s X tv hi' hc
  obtain ⟨p, q, w, e, B, S, P⟩ := X.at hi'
  obtain ⟨⟨u16, ult, uF⟩, g0, g1, g2, g3, g4, g5, g6⟩ := S.obj
  obtain ⟨n, en⟩ : ∃ n, n = (cnr bs i).length := ⟨_, rfl⟩
  obtain ⟨ht, eh⟩ : ∃ ht, ht = htZ tl (cnr bs i) (dmn bs i) := ⟨_, rfl⟩
  have n16 := P.2.1.2
  have hb : ∀ c, c < n → iB (ht c) := fun c hc => by
    have := htZ_sm P.1.2 tv (P.2.2.1 c (by rw [← en]; exact hc))
    rw [eh]; unfold iB; omega
  rw [← en, ← eh] at hh hx
  rw [← en] at n16
  rw [← en]
  rcases lw_fold (ht := ht) (dn := dn) n with ⟨-, z⟩ | ⟨m0, ms, h1, h2⟩
  · rw [z] at hx; cases hx
  rw [h2] at hx
  have ex := Option.some.inj hx
  have hin : inL (m0 :: ms) := by rw [← h1]; exact pickN_inL n n16
  have hml : ∀ m, m ∈ m0 :: ms → m < n := fun m hm => by rw [← h1] at hm; exact (pickN_mem.mp hm).1
  have em : mask (fun c => !dn c) n = stL (m0 :: ms) := by rw [← h1, ← mems_mask n16, stL_mems (mask_16 n16)]
  have sl0 : ∀ R, qMC (d + 2) 178 [.int (iN (stL (m0 :: ms)))] h R ↔ R = (some (.int (iN m0)), h) := fun R => x_least hin
  have lp := (loop_mem (d := d + 2) (rt := 0) (K := qk_128) (pc := 8) (R := R) (α := Nat × Option Value) (L := fun rest m => [some (.ref 43), some (.ref (sa i)), some (.int (iN (stL (m0 :: ms)))), some (.int (iN m.1)), some (.int (iN rest)), m.2]) (H := fun _ => h) (f := fun b m => (if ht m < ht b.1 then m else b.1, some (.int (iN m)))) (I := fun m => m.1 < n) (P := fun m => m < n) (fun m ms' b hin hm hb1 => by
    have sl : ∀ R, qMC (d + 2) 178 [.int (iN (stL (m :: ms')))] h R ↔ R = (some (.int (iN m)), h) := fun R => x_least hin
    have sd := stL_drop hin
    have sn := stL_ne hin
    have h1 := hh m hm
    have h2 := hh b.1 hb1
    have le := iZ_le (hb b.1 hb1) (hb m hm)
    try dsimp only
    by_cases z : ht m < ht b.1
    · rw [if_pos z]
      refine ⟨hm, ?_⟩
      rw [e128_8]
      simp (disch := first | assumption | omega) only [e128_0, e128_1, e128_4, e128_5, e128_6, e128_10, e128_13, e128_15, e128_18, e128_20, e128_21, e128_22, e128_24, e128_27, e128_28, e128_29, e128_30, e128_33, e128_36, e128_38, e128_39, e128_41, e128_43, e128_44, e128_45, e128_46, e128_48, e128_51, e128_52, m128, ↓reduceIte, qg_0, qg_1, qg_2, qg_3, qg_4, qg_5, qg_6, qg_7, qg_8, qg_9, qg_10, qg_11, qg_12, qg_13, not_true_eq_false, not_false_eq_true, Nat.reduceBEq, Bool.false_eq_true, ex1, ex3, ex4, exF, qfit_i, qfit_l, qfit_r, qfit_n, qfit_b0, qfit_b1, qcat_i, qcat_r, qcat_n, qcat_l, qroom_0, qroom_c, List.map_cons, List.map_nil, List.sum_cons, List.sum_nil, Nat.reduceAdd, Nat.reduceMul, Nat.reduceLT, Nat.reduceLeDiff, Nat.reduceEqDiff, Nat.reduceSub, decide_true, true_and, and_true, and_self, if_true, if_false, Option.toList_some, Option.toList_none, List.cons_append, List.nil_append, qsL, qlong, List.length_cons, List.length_nil, iN_L, exI, iN_add, iN_mul, iN_le, iN_lt, iN_eq, Nat.le_refl, qfN0, qfN1, uX_16, vX_16, uX_19, vX_19, uX_27, vX_27, uX_30, vX_30, uX_39, vX_39, uX_41, vX_41, uX_43, vX_43, uX_46, vX_46, uX_50, vX_50, uX_53, vX_53, sn, sl, u16, ult, uF, g0, g1, g2, g3, g4, g5, g6, h1, h2, le, show ¬ ht b.1 ≤ ht m by omega, sd]
    · rw [if_neg z]
      refine ⟨hb1, ?_⟩
      rw [e128_8]
      simp (disch := first | assumption | omega) only [e128_0, e128_1, e128_4, e128_5, e128_6, e128_10, e128_13, e128_15, e128_18, e128_20, e128_21, e128_22, e128_24, e128_27, e128_28, e128_29, e128_30, e128_33, e128_36, e128_38, e128_39, e128_41, e128_43, e128_44, e128_45, e128_46, e128_48, e128_51, e128_52, m128, ↓reduceIte, qg_0, qg_1, qg_2, qg_3, qg_4, qg_5, qg_6, qg_7, qg_8, qg_9, qg_10, qg_11, qg_12, qg_13, not_true_eq_false, not_false_eq_true, Nat.reduceBEq, Bool.false_eq_true, ex1, ex3, ex4, exF, qfit_i, qfit_l, qfit_r, qfit_n, qfit_b0, qfit_b1, qcat_i, qcat_r, qcat_n, qcat_l, qroom_0, qroom_c, List.map_cons, List.map_nil, List.sum_cons, List.sum_nil, Nat.reduceAdd, Nat.reduceMul, Nat.reduceLT, Nat.reduceLeDiff, Nat.reduceEqDiff, Nat.reduceSub, decide_true, true_and, and_true, and_self, if_true, if_false, Option.toList_some, Option.toList_none, List.cons_append, List.nil_append, qsL, qlong, List.length_cons, List.length_nil, iN_L, exI, iN_add, iN_mul, iN_le, iN_lt, iN_eq, Nat.le_refl, qfN0, qfN1, uX_16, vX_16, uX_19, vX_19, uX_27, vX_27, uX_30, vX_30, uX_39, vX_39, uX_41, vX_41, uX_43, vX_43, uX_46, vX_46, uX_50, vX_50, uX_53, vX_53, sn, sl, u16, ult, uF, g0, g1, g2, g3, g4, g5, g6, h1, h2, le, show ht b.1 ≤ ht m by omega, sd]) (m0 :: ms) (m0, none) hin hml (hml m0 List.mem_cons_self)).2
  have f1 : ∀ (ms : List Nat) (b : Nat × Option Value), (ms.foldl (fun (b : Nat × Option Value) m => (if ht m < ht b.1 then m else b.1, some (.int (iN m)))) b).1 = ms.foldl (fun b m => if ht m < ht b then m else b) b.1 := by
    intro ms
    induction ms with
    | nil => exact fun _ => rfl
    | cons m ms ih => exact fun b => ih _
  try dsimp only at lp
  rw [f1] at lp
  rw [h1] at ex
  rw [ex] at lp
  have r0 : qMC (d + 3) 128 [.ref 43, .ref (sa i), .int (iN (stL (m0 :: ms)))] h R ↔ qEv (d + 2) 0 qk_128 8 [some (.ref 43), some (.ref (sa i)), some (.int (iN (stL (m0 :: ms)))), some (.int (iN m0)), some (.int (iN (stL (m0 :: ms)))), none] [] h R := by
    simp (disch := first | assumption | omega) only [e128_0, e128_1, e128_4, e128_5, e128_6, e128_10, e128_13, e128_15, e128_18, e128_20, e128_21, e128_22, e128_24, e128_27, e128_28, e128_29, e128_30, e128_33, e128_36, e128_38, e128_39, e128_41, e128_43, e128_44, e128_45, e128_46, e128_48, e128_51, e128_52, m128, ↓reduceIte, qg_0, qg_1, qg_2, qg_3, qg_4, qg_5, qg_6, qg_7, qg_8, qg_9, qg_10, qg_11, qg_12, qg_13, not_true_eq_false, not_false_eq_true, Nat.reduceBEq, Bool.false_eq_true, ex1, ex3, ex4, exF, qfit_i, qfit_l, qfit_r, qfit_n, qfit_b0, qfit_b1, qcat_i, qcat_r, qcat_n, qcat_l, qroom_0, qroom_c, List.map_cons, List.map_nil, List.sum_cons, List.sum_nil, Nat.reduceAdd, Nat.reduceMul, Nat.reduceLT, Nat.reduceLeDiff, Nat.reduceEqDiff, Nat.reduceSub, decide_true, true_and, and_true, and_self, if_true, if_false, Option.toList_some, Option.toList_none, List.cons_append, List.nil_append, qsL, qlong, List.length_cons, List.length_nil, iN_L, exI, iN_add, iN_mul, iN_le, iN_lt, iN_eq, Nat.le_refl, qfN0, qfN1, uX_16, vX_16, uX_19, vX_19, uX_27, vX_27, uX_30, vX_30, uX_39, vX_39, uX_41, vX_41, uX_43, vX_43, uX_46, vX_46, uX_50, vX_50, uX_53, vX_53, sl0]
  rw [em, r0, lp, e128_8]
  simp (disch := first | assumption | omega) only [e128_0, e128_1, e128_4, e128_5, e128_6, e128_10, e128_13, e128_15, e128_18, e128_20, e128_21, e128_22, e128_24, e128_27, e128_28, e128_29, e128_30, e128_33, e128_36, e128_38, e128_39, e128_41, e128_43, e128_44, e128_45, e128_46, e128_48, e128_51, e128_52, m128, ↓reduceIte, qg_0, qg_1, qg_2, qg_3, qg_4, qg_5, qg_6, qg_7, qg_8, qg_9, qg_10, qg_11, qg_12, qg_13, not_true_eq_false, not_false_eq_true, Nat.reduceBEq, Bool.false_eq_true, ex1, ex3, ex4, exF, qfit_i, qfit_l, qfit_r, qfit_n, qfit_b0, qfit_b1, qcat_i, qcat_r, qcat_n, qcat_l, qroom_0, qroom_c, List.map_cons, List.map_nil, List.sum_cons, List.sum_nil, Nat.reduceAdd, Nat.reduceMul, Nat.reduceLT, Nat.reduceLeDiff, Nat.reduceEqDiff, Nat.reduceSub, decide_true, true_and, and_true, and_self, if_true, if_false, Option.toList_some, Option.toList_none, List.cons_append, List.nil_append, qsL, qlong, List.length_cons, List.length_nil, iN_L, exI, iN_add, iN_mul, iN_le, iN_lt, iN_eq, Nat.le_refl, qfN0, qfN1, uX_16, vX_16, uX_19, vX_19, uX_27, vX_27, uX_30, vX_30, uX_39, vX_39, uX_41, vX_41, uX_43, vX_43, uX_46, vX_46, uX_50, vX_50, uX_53, vX_53, stL_nil]
end XUPS

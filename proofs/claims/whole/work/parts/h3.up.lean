/-! ===== THE CLASS: height, up ===== -/
section XUP
variable {d : Nat} {h : qH} {bs : List bdy} {sa : Nat → Nat} {R : qRes} {tl : pt4}
theorem TlX.ch {A : List Nat} {J : List (Nat × Nat)} {k : Nat} {h' : qH} (c : ChX A J k h h') (s : ShX h) (h1 : 44 ∉ A) (v : TlX h tl) : TlX h' tl := fun j hj => by rw [c.hi h1 (by decide) (s.lt (by decide))]; exact v j hj
theorem htZ_4 {cs : List pt4} {D c : Nat} (hD : D ≤ 4) (hz : ∀ k, D ≤ k → k < 4 → lP cs c k = 0) : sumZ (fun k => co tl k * lP cs c k) 4 = htZ tl cs D c := by
  have key : ∀ k, D + k ≤ 4 → sumZ (fun k => co tl k * lP cs c k) (D + k) = htZ tl cs D c := by
    intro k
    induction k with
    | zero => exact fun _ => rfl
    | succ k ih =>
      intro hk
      have : sumZ (fun k => co tl k * lP cs c k) (D + (k + 1)) = sumZ (fun k => co tl k * lP cs c k) (D + k) + co tl (D + k) * lP cs c (D + k) := rfl
      rw [this, ih (by omega), hz (D + k) (by omega) (by omega), Int.mul_zero, Int.add_zero]
  have := key (4 - D) (by omega)
  rw [show D + (4 - D) = 4 by omega] at this
  exact this
theorem htZ_sm {cs : List pt4} {D c : Nat} (hD : D ≤ 4) (tv : TlX h tl) (hb : ∀ k, k < 4 → -999 ≤ lP cs c k ∧ lP cs c k ≤ 999) : -400000 ≤ htZ tl cs D c ∧ htZ tl cs D c ≤ 400000 := by
  have h1 : -((D : Nat) * (99 * 999 : Int)) ≤ sumZ (fun k => co tl k * lP cs c k) D ∧ sumZ (fun k => co tl k * lP cs c k) D ≤ (D : Nat) * (99 * 999 : Int) := sumZ_b fun j hj => mul_b (tv j (by omega)).2 (hb j (by omega))
  unfold htZ
  omega
set_option maxRecDepth 100000 in
set_option maxHeartbeats 16000000 in
theorem x_height {i c : Nat} (s : ShX h) (X : BsX h bs sa) (tv : TlX h tl) (hi' : i < bs.length) (hc : c < (cnr bs i).length) : qMC (d + 2) 124 [.ref 43, .ref (sa i), .int (iN c)] h R ↔ R = (some (.int (iZ (htZ tl (cnr bs i) (dmn bs i) c))), h) := by
  obtain ⟨p, q, w, e, B, S, P⟩ := X.at hi'
  obtain ⟨⟨u16, ult, uF⟩, g0, g1, g2, g3, g4, g5, g6⟩ := S.obj
  have t0 := (tv 0 (by decide)).1
  have t1 := (tv 1 (by decide)).1
  have t2 := (tv 2 (by decide)).1
  have t3 := (tv 3 (by decide)).1
  have a0 : ∀ R, qMC (d + 1) 104 [.ref (sa i), .int (iN c), .int (iN 0)] h R ↔ _ := fun R => x_at S hc (show 0 < 4 by decide)
  have a1 : ∀ R, qMC (d + 1) 104 [.ref (sa i), .int (iN c), .int (iN 1)] h R ↔ _ := fun R => x_at S hc (show 1 < 4 by decide)
  have a2 : ∀ R, qMC (d + 1) 104 [.ref (sa i), .int (iN c), .int (iN 2)] h R ↔ _ := fun R => x_at S hc (show 2 < 4 by decide)
  have a3 : ∀ R, qMC (d + 1) 104 [.ref (sa i), .int (iN c), .int (iN 3)] h R ↔ _ := fun R => x_at S hc (show 3 < 4 by decide)
  rw [← htZ_4 (tl := tl) P.1.2 (P.2.2.2.1 c), show sumZ (fun k => co tl k * lP (cnr bs i) c k) 4 = 0 + co tl 0 * lP (cnr bs i) c 0 + co tl 1 * lP (cnr bs i) c 1 + co tl 2 * lP (cnr bs i) c 2 + co tl 3 * lP (cnr bs i) c 3 from rfl, Int.zero_add]
  simp (disch := first | assumption | omega) only [e124_0, e124_1, e124_4, e124_5, e124_6, e124_7, e124_8, e124_9, e124_12, e124_13, e124_14, e124_17, e124_18, e124_19, e124_20, e124_21, e124_22, e124_25, e124_26, e124_27, e124_28, e124_31, e124_32, e124_33, e124_34, e124_35, e124_36, e124_39, e124_40, e124_41, e124_42, e124_45, e124_46, e124_47, e124_48, e124_49, e124_50, e124_53, e124_54, e124_55, m124, ↓reduceIte, qg_0, qg_1, qg_2, qg_3, qg_4, qg_5, qg_6, qg_7, qg_8, qg_9, qg_10, qg_11, qg_12, qg_13, not_true_eq_false, not_false_eq_true, Nat.reduceBEq, Bool.false_eq_true, ex1, ex3, ex4, exF, qfit_i, qfit_l, qfit_r, qfit_n, qfit_b0, qfit_b1, qcat_i, qcat_r, qcat_n, qcat_l, qroom_0, qroom_c, List.map_cons, List.map_nil, List.sum_cons, List.sum_nil, Nat.reduceAdd, Nat.reduceMul, Nat.reduceLT, Nat.reduceLeDiff, Nat.reduceEqDiff, Nat.reduceSub, decide_true, true_and, and_true, and_self, if_true, if_false, Option.toList_some, Option.toList_none, List.cons_append, List.nil_append, qsL, qlong, List.length_cons, List.length_nil, iN_L, exI, iN_add, iN_mul, iN_le, iN_lt, iN_eq, Nat.le_refl, qfN0, qfN1, uX_16, vX_16, uX_19, vX_19, uX_27, vX_27, uX_30, vX_30, uX_39, vX_39, uX_41, vX_41, uX_43, vX_43, uX_46, vX_46, uX_50, vX_50, uX_53, vX_53, gX_43_0, rX_44, t0, t1, t2, t3, u16, ult, uF, g0, g1, g2, g3, g4, g5, g6, a0, a1, a2, a3, iZ_mul, iZ_add]
theorem bst_fold {adj : Nat → Nat → Bool} {ht : Nat → Int} {x : Nat} : ∀ k, (pickN (adj x) k).foldl (fun b m => if ht b < ht m then m else b) x = bstN adj ht x k
  | 0 => rfl
  | k + 1 => by
    rw [foldl_pick, bst_fold k, bstN]
    by_cases q1 : adj x k = true
    · rw [if_pos q1]
      by_cases q2 : ht (bstN adj ht x k) < ht k
      · rw [if_pos q2, if_pos ⟨q1, q2⟩]
      · rw [if_neg q2, if_neg (fun z => q2 z.2)]
    · rw [if_neg q1, if_neg (fun z => q1 z.1)]
set_option maxRecDepth 100000 in
set_option maxHeartbeats 16000000 in
theorem x_highest {i c : Nat} (s : ShX h) (X : BsX h bs sa) (tv : TlX h tl) (hi' : i < bs.length) (hc : c < (cnr bs i).length) : qMC (d + 3) 126 [.ref 43, .ref (sa i), .int (iN c)] h R ↔ R = (some (.int (iN (bstN (adjB (cel bs i 1)) (htZ tl (cnr bs i) (dmn bs i)) c (cnr bs i).length))), h) := by
  have hh : ∀ c, c < (cnr bs i).length → ∀ R, qMC (d + 2) 124 [.ref 43, .ref (sa i), .int (iN c)] h R ↔ R = (some (.int (iZ (htZ tl (cnr bs i) (dmn bs i) c))), h) := fun c hc R => x_height s X tv hi' hc
  obtain ⟨p, q, w, e, B, S, P⟩ := X.at hi'
  obtain ⟨⟨u16, ult, uF⟩, g0, g1, g2, g3, g4, g5, g6⟩ := S.obj
  obtain ⟨n, en⟩ : ∃ n, n = (cnr bs i).length := ⟨_, rfl⟩
  obtain ⟨adj, ea⟩ : ∃ adj, adj = adjB (cel bs i 1) := ⟨_, rfl⟩
  obtain ⟨ht, eh⟩ : ∃ ht, ht = htZ tl (cnr bs i) (dmn bs i) := ⟨_, rfl⟩
  have n16 := P.2.1.2
  have hb : ∀ c, c < n → iB (ht c) := fun c hc => by
    have := htZ_sm P.1.2 tv (P.2.2.1 c (by rw [← en]; exact hc))
    rw [eh]; unfold iB; omega
  have nb := S.ne hc
  rw [← en, ← ea] at nb
  rw [← en, ← eh] at hh
  rw [← en] at hc n16
  rw [← en, ← ea, ← eh]
  have lp := (loop_mem (d := d + 2) (rt := 0) (K := qk_126) (pc := 10) (R := R) (α := Nat × Option Value) (L := fun rest m => [some (.ref 43), some (.ref (sa i)), some (.int (iN c)), some (.int (iN m.1)), some (.int (iN rest)), m.2]) (H := fun _ => h) (f := fun b m => (if ht b.1 < ht m then m else b.1, some (.int (iN m)))) (I := fun m => m.1 < n) (P := fun m => m < n) (fun m ms b hin hm hb1 => by
    have sl : ∀ R, qMC (d + 2) 178 [.int (iN (stL (m :: ms)))] h R ↔ R = (some (.int (iN m)), h) := fun R => x_least hin
    have sd := stL_drop hin
    have sn := stL_ne hin
    have h1 := hh m hm
    have h2 := hh b.1 hb1
    have le := iZ_le (hb m hm) (hb b.1 hb1)
    try dsimp only
    by_cases z : ht b.1 < ht m
    · rw [if_pos z]
      refine ⟨hm, ?_⟩
      rw [e126_10]
      simp (disch := first | assumption | omega) only [e126_0, e126_1, e126_2, e126_3, e126_6, e126_7, e126_8, e126_12, e126_15, e126_17, e126_20, e126_22, e126_23, e126_24, e126_26, e126_29, e126_30, e126_31, e126_32, e126_35, e126_38, e126_40, e126_41, e126_43, e126_45, e126_46, e126_47, e126_48, e126_50, e126_53, e126_54, m126, ↓reduceIte, qg_0, qg_1, qg_2, qg_3, qg_4, qg_5, qg_6, qg_7, qg_8, qg_9, qg_10, qg_11, qg_12, qg_13, not_true_eq_false, not_false_eq_true, Nat.reduceBEq, Bool.false_eq_true, ex1, ex3, ex4, exF, qfit_i, qfit_l, qfit_r, qfit_n, qfit_b0, qfit_b1, qcat_i, qcat_r, qcat_n, qcat_l, qroom_0, qroom_c, List.map_cons, List.map_nil, List.sum_cons, List.sum_nil, Nat.reduceAdd, Nat.reduceMul, Nat.reduceLT, Nat.reduceLeDiff, Nat.reduceEqDiff, Nat.reduceSub, decide_true, true_and, and_true, and_self, if_true, if_false, Option.toList_some, Option.toList_none, List.cons_append, List.nil_append, qsL, qlong, List.length_cons, List.length_nil, iN_L, exI, iN_add, iN_mul, iN_le, iN_lt, iN_eq, Nat.le_refl, qfN0, qfN1, uX_16, vX_16, uX_19, vX_19, uX_27, vX_27, uX_30, vX_30, uX_39, vX_39, uX_41, vX_41, uX_43, vX_43, uX_46, vX_46, uX_50, vX_50, uX_53, vX_53, sn, sl, u16, ult, uF, g0, g1, g2, g3, g4, g5, g6, h1, h2, le, show ¬ ht m ≤ ht b.1 by omega, sd]
    · rw [if_neg z]
      refine ⟨hb1, ?_⟩
      rw [e126_10]
      simp (disch := first | assumption | omega) only [e126_0, e126_1, e126_2, e126_3, e126_6, e126_7, e126_8, e126_12, e126_15, e126_17, e126_20, e126_22, e126_23, e126_24, e126_26, e126_29, e126_30, e126_31, e126_32, e126_35, e126_38, e126_40, e126_41, e126_43, e126_45, e126_46, e126_47, e126_48, e126_50, e126_53, e126_54, m126, ↓reduceIte, qg_0, qg_1, qg_2, qg_3, qg_4, qg_5, qg_6, qg_7, qg_8, qg_9, qg_10, qg_11, qg_12, qg_13, not_true_eq_false, not_false_eq_true, Nat.reduceBEq, Bool.false_eq_true, ex1, ex3, ex4, exF, qfit_i, qfit_l, qfit_r, qfit_n, qfit_b0, qfit_b1, qcat_i, qcat_r, qcat_n, qcat_l, qroom_0, qroom_c, List.map_cons, List.map_nil, List.sum_cons, List.sum_nil, Nat.reduceAdd, Nat.reduceMul, Nat.reduceLT, Nat.reduceLeDiff, Nat.reduceEqDiff, Nat.reduceSub, decide_true, true_and, and_true, and_self, if_true, if_false, Option.toList_some, Option.toList_none, List.cons_append, List.nil_append, qsL, qlong, List.length_cons, List.length_nil, iN_L, exI, iN_add, iN_mul, iN_le, iN_lt, iN_eq, Nat.le_refl, qfN0, qfN1, uX_16, vX_16, uX_19, vX_19, uX_27, vX_27, uX_30, vX_30, uX_39, vX_39, uX_41, vX_41, uX_43, vX_43, uX_46, vX_46, uX_50, vX_50, uX_53, vX_53, sn, sl, u16, ult, uF, g0, g1, g2, g3, g4, g5, g6, h1, h2, le, show ht m ≤ ht b.1 by omega, sd]) (pickN (adj c) n) (c, none) (pickN_inL n n16) (fun m hm => (pickN_mem.mp hm).1) hc).2
  have f1 : ∀ (ms : List Nat) (b : Nat × Option Value), (ms.foldl (fun (b : Nat × Option Value) m => (if ht b.1 < ht m then m else b.1, some (.int (iN m)))) b).1 = ms.foldl (fun b m => if ht b < ht m then m else b) b.1 := by
    intro ms
    induction ms with
    | nil => exact fun _ => rfl
    | cons m ms ih => exact fun b => ih _
  try dsimp only at lp
  rw [f1, bst_fold n, ← mems_mask n16, stL_mems (mask_16 n16)] at lp
  have r0 : qMC (d + 3) 126 [.ref 43, .ref (sa i), .int (iN c)] h R ↔ qEv (d + 2) 0 qk_126 10 [some (.ref 43), some (.ref (sa i)), some (.int (iN c)), some (.int (iN c)), some (.int (iN (mask (adj c) n))), none] [] h R := by
    simp (disch := first | assumption | omega) only [e126_0, e126_1, e126_2, e126_3, e126_6, e126_7, e126_8, e126_12, e126_15, e126_17, e126_20, e126_22, e126_23, e126_24, e126_26, e126_29, e126_30, e126_31, e126_32, e126_35, e126_38, e126_40, e126_41, e126_43, e126_45, e126_46, e126_47, e126_48, e126_50, e126_53, e126_54, m126, ↓reduceIte, qg_0, qg_1, qg_2, qg_3, qg_4, qg_5, qg_6, qg_7, qg_8, qg_9, qg_10, qg_11, qg_12, qg_13, not_true_eq_false, not_false_eq_true, Nat.reduceBEq, Bool.false_eq_true, ex1, ex3, ex4, exF, qfit_i, qfit_l, qfit_r, qfit_n, qfit_b0, qfit_b1, qcat_i, qcat_r, qcat_n, qcat_l, qroom_0, qroom_c, List.map_cons, List.map_nil, List.sum_cons, List.sum_nil, Nat.reduceAdd, Nat.reduceMul, Nat.reduceLT, Nat.reduceLeDiff, Nat.reduceEqDiff, Nat.reduceSub, decide_true, true_and, and_true, and_self, if_true, if_false, Option.toList_some, Option.toList_none, List.cons_append, List.nil_append, qsL, qlong, List.length_cons, List.length_nil, iN_L, exI, iN_add, iN_mul, iN_le, iN_lt, iN_eq, Nat.le_refl, qfN0, qfN1, uX_16, vX_16, uX_19, vX_19, uX_27, vX_27, uX_30, vX_30, uX_39, vX_39, uX_41, vX_41, uX_43, vX_43, uX_46, vX_46, uX_50, vX_50, uX_53, vX_53, u16, ult, uF, g0, g1, g2, g3, g4, g5, g6, nb]
  rw [r0, lp, e126_10]
  simp (disch := first | assumption | omega) only [e126_0, e126_1, e126_2, e126_3, e126_6, e126_7, e126_8, e126_12, e126_15, e126_17, e126_20, e126_22, e126_23, e126_24, e126_26, e126_29, e126_30, e126_31, e126_32, e126_35, e126_38, e126_40, e126_41, e126_43, e126_45, e126_46, e126_47, e126_48, e126_50, e126_53, e126_54, m126, ↓reduceIte, qg_0, qg_1, qg_2, qg_3, qg_4, qg_5, qg_6, qg_7, qg_8, qg_9, qg_10, qg_11, qg_12, qg_13, not_true_eq_false, not_false_eq_true, Nat.reduceBEq, Bool.false_eq_true, ex1, ex3, ex4, exF, qfit_i, qfit_l, qfit_r, qfit_n, qfit_b0, qfit_b1, qcat_i, qcat_r, qcat_n, qcat_l, qroom_0, qroom_c, List.map_cons, List.map_nil, List.sum_cons, List.sum_nil, Nat.reduceAdd, Nat.reduceMul, Nat.reduceLT, Nat.reduceLeDiff, Nat.reduceEqDiff, Nat.reduceSub, decide_true, true_and, and_true, and_self, if_true, if_false, Option.toList_some, Option.toList_none, List.cons_append, List.nil_append, qsL, qlong, List.length_cons, List.length_nil, iN_L, exI, iN_add, iN_mul, iN_le, iN_lt, iN_eq, Nat.le_refl, qfN0, qfN1, uX_16, vX_16, uX_19, vX_19, uX_27, vX_27, uX_30, vX_30, uX_39, vX_39, uX_41, vX_41, uX_43, vX_43, uX_46, vX_46, uX_50, vX_50, uX_53, vX_53, stL_nil]
end XUP

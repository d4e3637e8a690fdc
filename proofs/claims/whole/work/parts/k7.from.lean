/-! ===== THE CLASS: fromSets ===== -/
section XFROM
variable {d : Nat} {h : qH} {R : qRes}
set_option maxRecDepth 100000 in
set_option maxHeartbeats 16000000 in
theorem x_fromSets {fr nf n : Nat} {L : List Nat} (s : ShX h) (kf : kI h fr nf) (f31 : fr ≠ 31) (hn : n ≤ 16) (hl : L.length ≤ nf ∧ L.length ≤ 104) (hnf : nf < 100000) (va : ∀ t, t < L.length → hi h fr t = iN (L.getD t 0) ∧ L.getD t 0 < 2 ^ n) : ∃ h', (∀ R, qMC (d + 2) 50 [.ref 30, .int (iN n), .ref fr, .int (iN L.length)] h R ↔ R = (none, h')) ∧ ChX [31] [(30, 1), (30, 2)] 0 h h' ∧ MaX h' n L := by
  have fXO : fr ∉ XO := fun z => by
    obtain ⟨ci, -, hc⟩ := (by decide : ∀ x ∈ XO, (∃ ci, ci < 20 ∧ (x, ci) ∈ XOs)) fr z
    exact kO_kI (s.1 _ hc) kf
  obtain ⟨h1, e1⟩ : ∃ h1, h1 = xV h 30 2 (.int (iN n)) := ⟨_, rfl⟩
  have c1 : ChX [31] [(30, 1), (30, 2)] 0 h h1 := by rw [e1]; exact ChX.setI s (by decide) (by decide)
  have s1 := c1.sh
  have p1 : qput h 30 4 2 (.int (iN n)) = some h1 := by rw [e1]; exact pX_30_2 s
  obtain ⟨kf1, hf1⟩ := chI c1 kf (fun z => f31 (by rw [List.mem_singleton] at z; exact z)) s
  have ln := lnI kf1
  have mn1 : ∀ R, qMC (d + 1) 314 [.int (iN nf), .int (iN 104)] h1 R ↔ R = (some (.int (iN (if 104 < nf then 104 else nf))), h1) := fun R => x_min (by omega) (by decide)
  obtain ⟨j, ej⟩ : ∃ j, j = if 104 < nf then 104 else nf := ⟨_, rfl⟩
  have jl : L.length ≤ j ∧ j ≤ 104 := by rw [ej]; split <;> omega
  rw [← ej] at mn1
  have mn2 : ∀ R, qMC (d + 1) 314 [.int (iN L.length), .int (iN j)] h1 R ↔ R = (some (.int (iN L.length)), h1) := fun R => by
    rw [x_min (by omega) (by omega), if_neg (show ¬ j < L.length by omega)]
  obtain ⟨h2, e2⟩ : ∃ h2, h2 = xV h1 30 1 (.int (iN L.length)) := ⟨_, rfl⟩
  have c2 : ChX [31] [(30, 1), (30, 2)] 0 h h2 := c1.trans0 (by rw [e2]; exact ChX.setI s1 (by decide) (by decide))
  have s2 := c2.sh
  have p2 : qput h1 30 4 1 (.int (iN L.length)) = some h2 := by rw [e2]; exact pX_30_1 s1
  have x2 : xi h2 30 1 = iN L.length := by rw [e2, xi_xV, if_pos ⟨rfl, rfl⟩]
  obtain ⟨kf2, hf2⟩ := chI c2 kf (fun z => f31 (by rw [List.mem_singleton] at z; exact z)) s
  have cp := cpI (n := L.length) kf2 (kX_31 s2) (by omega) (by omega)
  obtain ⟨h3, e3⟩ : ∃ h3, h3 = sI h2 31 (fun x => if x < L.length then hi h2 fr x else hi h2 31 x) := ⟨_, rfl⟩
  rw [← e3] at cp
  have c3 : ChX [31] [(30, 1), (30, 2)] 0 h h3 := c2.trans0 (by rw [e3]; exact ChX.rowI s2 (kX_31 s2) (by decide) (by decide))
  refine ⟨h3, fun R => ?_, c3, ⟨hn, hl.2⟩, ?_, ?_, fun t ht => ?_⟩
  · simp (disch := first | assumption | omega) only [e50_0, e50_1, e50_2, e50_5, e50_6, e50_7, e50_8, e50_9, e50_11, e50_14, e50_17, e50_20, e50_21, e50_22, e50_23, e50_26, e50_27, e50_28, e50_31, e50_34, m50, ↓reduceIte, qg_0, qg_1, qg_2, qg_3, qg_4, qg_5, qg_6, qg_7, qg_8, qg_9, qg_10, qg_11, qg_12, qg_13, not_true_eq_false, not_false_eq_true, Nat.reduceBEq, Bool.false_eq_true, ex1, ex3, ex4, exF, qfit_i, qfit_l, qfit_r, qfit_n, qfit_b0, qfit_b1, qcat_i, qcat_r, qcat_n, qcat_l, qroom_0, qroom_c, List.map_cons, List.map_nil, List.sum_cons, List.sum_nil, Nat.reduceAdd, Nat.reduceMul, Nat.reduceLT, Nat.reduceLeDiff, Nat.reduceEqDiff, Nat.reduceSub, decide_true, true_and, and_true, and_self, if_true, if_false, Option.toList_some, Option.toList_none, List.cons_append, List.nil_append, qsL, qlong, List.length_cons, List.length_nil, iN_L, exI, iN_add, iN_mul, iN_le, iN_lt, iN_eq, Nat.le_refl, qfN0, qfN1, uX_16, vX_16, uX_19, vX_19, uX_27, vX_27, uX_30, vX_30, uX_39, vX_39, uX_41, vX_41, uX_43, vX_43, uX_46, vX_46, uX_50, vX_50, uX_53, vX_53, p1, ln, mn1, mn2, p2, gX_30_0, gX_30_1, x2, cp]
  · rw [e3]; unfold xi; rw [hf_sI (kX_31 s2)]; show xi h2 30 2 = _; rw [e2, xi_xV, if_neg (by decide), e1, xi_xV, if_pos ⟨rfl, rfl⟩]
  · rw [e3]; unfold xi; rw [hf_sI (kX_31 s2)]; exact x2
  · rw [e3, hi_sI, if_pos rfl, if_pos ht, hf2]
    exact va t ht
end XFROM

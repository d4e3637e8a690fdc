/-! ===== THE CLASS: the text, shapes and claims ===== -/
section XCLAUSE
variable {d : Nat} {h : qH} {R : qRes} {tx : List Nat} {f : Option pFl}
theorem er_or {α β : Type} {x : pFl ⊕ α} {g : α → pFl ⊕ β} {o : Option pFl} (h : ∀ r, x = .inr r → o = erQ (g r)) : (erQ x).or o = erQ (pB x g) := by
  cases x with
  | inl e => rfl
  | inr r => exact h r rfl
theorem er_map {α β : Type} {x : pFl ⊕ α} {k : α → β} : erQ (pB x fun q => .inr (k q)) = erQ x := by cases x <;> rfl
theorem x_putE {c j : Nat} {x : Int32} (s : ShX h) (m : xi h 50 5 = iN c) (hc : c < 27) (hj : j < 5) : ∃ h', (∀ R, qMC (d + 1) 74 [.ref 50, .int (iN j), .int x] h R ↔ R = (none, h')) ∧ ChX [52] [] 0 h h' ∧ ∀ i, hi h' 52 i = if i = c * 5 + j then x else hi h 52 i := ⟨_, fun R => x_put s m (by omega), ChX.rowI s (kX_52 s) (by decide) (by decide), fun i => by rw [hi_sI, if_pos rfl, upd_at]⟩
theorem row52 {J : List (Nat × Nat)} {h' : qH} (c : ChX [] J 0 h h') (s : ShX h) (i : Nat) : hi h' 52 i = hi h 52 i := by rw [c.hi (by intro z; cases z) (by decide) (s.lt (by decide))]
set_option maxRecDepth 100000 in
set_option maxHeartbeats 16000000 in
theorem x_parseShape {a c k : Nat} (s : ShX h) (t : TxX h tx) (v : AtX h tx a) (vf : FtX h f) (m : xi h 50 5 = iN c) (hc : c < 27) : ∃ (h' : qH) (n : Nat), (∀ R, qMC (d + 5) 77 [.ref 50, .int (iN k)] h R ↔ R = (none, h')) ∧ n ≤ 1000 ∧ ChX [52] [(50, 2), (50, 6), (50, 7)] 0 h h' ∧ (∀ i, hi h' 52 i = if i = c * 5 + 2 then iN 0 else if i = c * 5 + 1 then iN n else if i = c * 5 then iN k else hi h 52 i) ∧ ∃ a', AtX h' tx a' ∧ FtX h' (f.or (erQ (pNum tx a 2 4))) ∧ ∀ r, pNum tx a 2 4 = .inr r → r = (a', n) := by
  obtain ⟨g1, r1, c1, y1⟩ := x_putE (d := d + 3) (j := 0) (x := iN k) s m hc (by decide)
  have s1 := c1.sh
  obtain ⟨g2, n, r2, hn, c2, a', v2, f2, e2⟩ := x_takeNumber (d := d) (lo := 2) (hi' := 4) s1 (t.ch c1 s (by decide) (by intro z; cases z)) (v.ch c1 (by intro z; cases z)) (vf.ch c1 (by intro z; cases z) (by intro z; cases z)) (by decide) (by decide)
  have s2 := c2.sh
  have m1 := (c1.xi (b := 50) (j := 5) (by decide) (by intro z; cases z)).trans m
  have m2 := (c2.xi (b := 50) (j := 5) (by decide) (by decide)).trans m1
  obtain ⟨g3, r3, c3, y3⟩ := x_putE (d := d + 3) (j := 1) (x := iN n) s2 m2 hc (by decide)
  have s3 := c3.sh
  have m3 := (c3.xi (b := 50) (j := 5) (by decide) (by intro z; cases z)).trans m2
  obtain ⟨g4, r4, c4, y4⟩ := x_putE (d := d + 3) (j := 2) (x := iN 0) s3 m3 hc (by decide)
  have c34 : ChX [52] [] 0 g2 g4 := c3.trans0 c4
  refine ⟨g4, n, fun R => ?_, hn, ((c1.mono (fun _ z => z) (by intro _ z; cases z) (Nat.le_refl _)).trans0 (c2.mono (by intro _ z; cases z) (fun _ z => z) (Nat.le_refl _))).trans0 (c34.mono (fun _ z => z) (by intro _ z; cases z) (Nat.le_refl _)), fun i => ?_, a', v2.ch c34 (by intro z; cases z), f2.ch c34 (by intro z; cases z) (by intro z; cases z), e2⟩
  · simp (disch := first | assumption | omega) only [e77_0, e77_1, e77_2, e77_3, e77_6, e77_7, e77_8, e77_9, e77_10, e77_11, e77_14, e77_17, e77_18, e77_19, e77_20, e77_23, m77, ↓reduceIte, qg_0, qg_1, qg_2, qg_3, qg_4, qg_5, qg_6, qg_7, qg_8, qg_9, qg_10, qg_11, qg_12, qg_13, not_true_eq_false, not_false_eq_true, Nat.reduceBEq, Bool.false_eq_true, ex1, ex3, ex4, exF, qfit_i, qfit_l, qfit_r, qfit_n, qfit_b0, qfit_b1, qcat_i, qcat_r, qcat_n, qcat_l, qroom_0, qroom_c, List.map_cons, List.map_nil, List.sum_cons, List.sum_nil, Nat.reduceAdd, Nat.reduceMul, Nat.reduceLT, Nat.reduceLeDiff, Nat.reduceEqDiff, Nat.reduceSub, decide_true, true_and, and_true, and_self, if_true, if_false, Option.toList_some, Option.toList_none, List.cons_append, List.nil_append, qsL, qlong, List.length_cons, List.length_nil, iN_L, exI, iN_add, iN_mul, iN_le, iN_lt, iN_eq, Nat.le_refl, qfN0, qfN1, uX_16, vX_16, uX_19, vX_19, uX_27, vX_27, uX_30, vX_30, uX_39, vX_39, uX_41, vX_41, uX_43, vX_43, uX_46, vX_46, uX_50, vX_50, uX_53, vX_53, r1, r2, r3, r4]
  · rw [y4, y3, row52 c2 s1, y1]
    rfl
theorem pNum_wd {a lo hi' : Nat} (hw : wdE tx (skp tx a) ≠ []) : pNum tx a lo hi' = .inl (1, skp tx a) := by
  have : dgE tx (skp tx a) = [] := by
    rcases Nat.lt_or_ge (skp tx a) tx.length with z | z
    · refine tk_no z fun q => hw (tk_no z fun y => ?_)
      have h1 := of_decide_eq_true q
      have h2 := of_decide_eq_true y
      omega
    · exact tk_end z
  unfold pNum
  rw [if_pos this]
set_option maxRecDepth 100000 in
set_option maxHeartbeats 16000000 in
theorem x_who {a st : Nat} (s : ShX h) (t : TxX h tx) (v : AtX h tx a) (vf : FtX h f) : ∃ (h' : qH) (x : Int32), (∀ R, qEv (d + 4) 4 qk_78 33 [some (.ref 50), some (.int (iN st))] [.int (iN 1), .ref 50] h R ↔ qEv (d + 4) 4 qk_78 53 [some (.ref 50), some (.int (iN st))] [.int x, .int (iN 1), .ref 50] h' R) ∧ ChX [] [(50, 2), (50, 6), (50, 7)] 0 h h' ∧ ∃ a', AtX h' tx a' ∧ FtX h' (f.or (erQ (pWho tx a))) ∧ ∀ r, pWho tx a = .inr r → r.1 = a' ∧ x = bV r.2 := by
  obtain ⟨h1, r1, c1, v1⟩ := x_passWord (d := d + 1) (k := 7) (w := w_all) s t v ⟨by decide, by decide⟩ rfl (by decide) (by decide)
  have s1 := c1.sh
  have f1 := vf.ch c1 (by decide) (by decide)
  have c1' : ChX [] [(50, 2), (50, 6), (50, 7)] 0 h h1 := c1.mono (by intro _ z; cases z) (by decide) (Nat.le_refl _)
  by_cases z : wdE tx (skp tx a) = w_all
  · rw [if_pos z] at v1
    rw [if_pos z] at r1
    have e : pWho tx a = .inr (skp tx a + w_all.length, none) := by
      unfold pWho pWrd
      rw [if_neg (by rw [z]; decide), if_pos z]; rfl
    refine ⟨h1, -iN 1, fun R => ?_, c1', _, v1, by rw [e]; cases f <;> exact f1, fun r hr => by rw [e] at hr; injection hr with hr; rw [← hr]; exact ⟨rfl, rfl⟩⟩
    rw [e78_33]
    simp (disch := first | assumption | omega) only [e78_0, e78_1, e78_2, e78_5, e78_6, e78_7, e78_10, e78_11, e78_14, e78_16, e78_19, e78_20, e78_21, e78_22, e78_25, e78_26, e78_27, e78_28, e78_31, e78_32, e78_34, e78_36, e78_39, e78_42, e78_43, e78_46, e78_47, e78_48, e78_50, e78_56, e78_57, e78_59, e78_62, e78_63, e78_64, e78_65, e78_66, e78_67, e78_70, e78_73, e78_74, e78_75, e78_76, e78_79, e78_82, e78_83, e78_84, e78_85, e78_86, e78_89, e78_92, e78_95, m78, ↓reduceIte, qg_0, qg_1, qg_2, qg_3, qg_4, qg_5, qg_6, qg_7, qg_8, qg_9, qg_10, qg_11, qg_12, qg_13, not_true_eq_false, not_false_eq_true, Nat.reduceBEq, Bool.false_eq_true, ex1, ex3, ex4, exF, qfit_i, qfit_l, qfit_r, qfit_n, qfit_b0, qfit_b1, qcat_i, qcat_r, qcat_n, qcat_l, qroom_0, qroom_c, List.map_cons, List.map_nil, List.sum_cons, List.sum_nil, Nat.reduceAdd, Nat.reduceMul, Nat.reduceLT, Nat.reduceLeDiff, Nat.reduceEqDiff, Nat.reduceSub, decide_true, true_and, and_true, and_self, if_true, if_false, Option.toList_some, Option.toList_none, List.cons_append, List.nil_append, qsL, qlong, List.length_cons, List.length_nil, iN_L, exI, iN_add, iN_mul, iN_le, iN_lt, iN_eq, Nat.le_refl, qfN0, qfN1, uX_16, vX_16, uX_19, vX_19, uX_27, vX_27, uX_30, vX_30, uX_39, vX_39, uX_41, vX_41, uX_43, vX_43, uX_46, vX_46, uX_50, vX_50, uX_53, vX_53, r1, iN10]
  · rw [if_neg z] at v1
    rw [if_neg z] at r1
    obtain ⟨h2, x, r2, hx, c2, a', v2, f2, e2⟩ := x_takeNumber (d := d) (lo := 0) (hi' := 99) s1 (t.ch c1 s (by intro z; cases z) (by decide)) v1 f1 (by decide) (by decide)
    rw [pNum_skp v.1] at f2 e2
    have e : erQ (pWho tx a) = erQ (pNum tx a 0 99) ∧ ∀ r, pWho tx a = .inr r → ∃ q, pNum tx a 0 99 = .inr q ∧ r = (q.1, some q.2) := by
      by_cases w : wdE tx (skp tx a) = []
      · have : pWho tx a = pB (pNum tx a 0 99) fun q => .inr (q.1, some q.2) := by unfold pWho; rw [if_pos w]
        rw [this]
        refine ⟨er_map, fun r hr => ?_⟩
        obtain ⟨q, h1, h2⟩ := pB_ok hr
        injection h2 with h2
        exact ⟨q, h1, h2.symm⟩
      · have : pWho tx a = .inl (1, skp tx a) := by
          unfold pWho pWrd
          rw [if_neg w, if_neg z]; rfl
        rw [this, pNum_wd w]
        exact ⟨rfl, fun r hr => by cases hr⟩
    refine ⟨h2, iN x, fun R => ?_, c1'.trans0 c2, a', v2, by rw [e.1]; exact f2, fun r hr => ?_⟩
    · rw [e78_33]
      simp (disch := first | assumption | omega) only [e78_0, e78_1, e78_2, e78_5, e78_6, e78_7, e78_10, e78_11, e78_14, e78_16, e78_19, e78_20, e78_21, e78_22, e78_25, e78_26, e78_27, e78_28, e78_31, e78_32, e78_34, e78_36, e78_39, e78_42, e78_43, e78_46, e78_47, e78_48, e78_50, e78_56, e78_57, e78_59, e78_62, e78_63, e78_64, e78_65, e78_66, e78_67, e78_70, e78_73, e78_74, e78_75, e78_76, e78_79, e78_82, e78_83, e78_84, e78_85, e78_86, e78_89, e78_92, e78_95, m78, ↓reduceIte, qg_0, qg_1, qg_2, qg_3, qg_4, qg_5, qg_6, qg_7, qg_8, qg_9, qg_10, qg_11, qg_12, qg_13, not_true_eq_false, not_false_eq_true, Nat.reduceBEq, Bool.false_eq_true, ex1, ex3, ex4, exF, qfit_i, qfit_l, qfit_r, qfit_n, qfit_b0, qfit_b1, qcat_i, qcat_r, qcat_n, qcat_l, qroom_0, qroom_c, List.map_cons, List.map_nil, List.sum_cons, List.sum_nil, Nat.reduceAdd, Nat.reduceMul, Nat.reduceLT, Nat.reduceLeDiff, Nat.reduceEqDiff, Nat.reduceSub, decide_true, true_and, and_true, and_self, if_true, if_false, Option.toList_some, Option.toList_none, List.cons_append, List.nil_append, qsL, qlong, List.length_cons, List.length_nil, iN_L, exI, iN_add, iN_mul, iN_le, iN_lt, iN_eq, Nat.le_refl, qfN0, qfN1, uX_16, vX_16, uX_19, vX_19, uX_27, vX_27, uX_30, vX_30, uX_39, vX_39, uX_41, vX_41, uX_43, vX_43, uX_46, vX_46, uX_50, vX_50, uX_53, vX_53, r1, r2]
    · obtain ⟨q, h1, h3⟩ := e.2 r hr
      have := e2 q h1
      rw [h3, this]
      exact ⟨rfl, rfl⟩
/-- a claim of the text -/
def clmQ (tx : List Nat) (a cn st : Nat) : pFl ⊕ (Nat × clm) := if cn = 8 then .inl (3, st) else pClm tx a
set_option maxRecDepth 100000 in
set_option maxHeartbeats 64000000 in
theorem x_parseClaim {a c cn st : Nat} (s : ShX h) (t : TxX h tx) (v : AtX h tx a) (vf : FtX h none) (m : xi h 50 5 = iN c) (hc : c < 27) (m3 : xi h 50 3 = iN cn) (h8 : cn ≤ 8) : ∃ h', (∀ R, qMC (d + 5) 78 [.ref 50, .int (iN st)] h R ↔ R = (none, h')) ∧ ChX [52] [(50, 2), (50, 3), (50, 6), (50, 7)] 0 h h' ∧ (∀ i, i < c * 5 ∨ c * 5 + 5 ≤ i → hi h' 52 i = hi h 52 i) ∧ xi h' 50 3 = iN (cn + 1) ∧ ∃ a', AtX h' tx a' ∧ FtX h' (erQ (clmQ tx a cn st)) ∧ ∀ r, clmQ tx a cn st = .inr r → r.1 = a' ∧ hi h' 52 (c * 5) = iN 4 ∧ ∀ j, j < 4 → hi h' 52 (c * 5 + 1 + j) = cmI r.2 j := by
  obtain ⟨g1, e1⟩ : ∃ g1, g1 = xV h 50 3 (.int (iN (cn + 1))) := ⟨_, rfl⟩
  have p1 : qput h 50 6 3 (.int (iN (cn + 1))) = some g1 := by rw [e1]; exact pX_50_3 s
  have c1 : ChX [] [(50, 3)] 0 h g1 := by rw [e1]; exact ChX.setI s (by decide) (by decide)
  have s1 := c1.sh
  have n1 : xi g1 50 3 = iN (cn + 1) := by rw [e1, xi_xV, if_pos ⟨rfl, rfl⟩]
  have t1 := t.ch c1 s (by intro z; cases z) (by decide)
  have v1 := v.ch c1 (by decide)
  have f1 := vf.ch c1 (by decide) (by decide)
  have m1 := (c1.xi (b := 50) (j := 5) (by decide) (by decide)).trans m
  -- too many
  obtain ⟨g2, c2, f2, r2⟩ : ∃ g2, ChX [] [(50, 6), (50, 7)] 0 g1 g2 ∧ FtX g2 (if cn = 8 then some (3, st) else none) ∧ ∀ R, qMC (d + 5) 78 [.ref 50, .int (iN st)] h R ↔ qEv (d + 4) 4 qk_78 25 [some (.ref 50), some (.int (iN st))] [] g2 R := by
    by_cases z : cn = 8
    · obtain ⟨g2, r2, c2, f2⟩ := x_fail (d := d + 3) (k := 3) (p := st) s1 f1 ⟨by decide, by decide⟩
      refine ⟨g2, c2, by rw [if_pos z]; exact f2, fun R => ?_⟩
      simp (disch := first | assumption | omega) only [e78_0, e78_1, e78_2, e78_5, e78_6, e78_7, e78_10, e78_11, e78_14, e78_16, e78_19, e78_20, e78_21, e78_22, e78_26, e78_27, e78_28, e78_31, e78_32, e78_34, e78_36, e78_39, e78_42, e78_43, e78_46, e78_47, e78_48, e78_50, e78_56, e78_57, e78_59, e78_62, e78_63, e78_64, e78_65, e78_66, e78_67, e78_70, e78_73, e78_74, e78_75, e78_76, e78_79, e78_82, e78_83, e78_84, e78_85, e78_86, e78_89, e78_92, e78_95, m78, ↓reduceIte, qg_0, qg_1, qg_2, qg_3, qg_4, qg_5, qg_6, qg_7, qg_8, qg_9, qg_10, qg_11, qg_12, qg_13, not_true_eq_false, not_false_eq_true, Nat.reduceBEq, Bool.false_eq_true, ex1, ex3, ex4, exF, qfit_i, qfit_l, qfit_r, qfit_n, qfit_b0, qfit_b1, qcat_i, qcat_r, qcat_n, qcat_l, qroom_0, qroom_c, List.map_cons, List.map_nil, List.sum_cons, List.sum_nil, Nat.reduceAdd, Nat.reduceMul, Nat.reduceLT, Nat.reduceLeDiff, Nat.reduceEqDiff, Nat.reduceSub, decide_true, true_and, and_true, and_self, if_true, if_false, Option.toList_some, Option.toList_none, List.cons_append, List.nil_append, qsL, qlong, List.length_cons, List.length_nil, iN_L, exI, iN_add, iN_mul, iN_le, iN_lt, iN_eq, Nat.le_refl, qfN0, qfN1, uX_16, vX_16, uX_19, vX_19, uX_27, vX_27, uX_30, vX_30, uX_39, vX_39, uX_41, vX_41, uX_43, vX_43, uX_46, vX_46, uX_50, vX_50, uX_53, vX_53, gX_50_3, m3, p1, n1, show 8 < cn + 1 by omega, show ¬ cn + 1 ≤ 8 by omega, r2]
    · refine ⟨g1, ChX.refl s1, by rw [if_neg z]; exact f1, fun R => ?_⟩
      simp (disch := first | assumption | omega) only [e78_0, e78_1, e78_2, e78_5, e78_6, e78_7, e78_10, e78_11, e78_14, e78_16, e78_19, e78_20, e78_21, e78_22, e78_26, e78_27, e78_28, e78_31, e78_32, e78_34, e78_36, e78_39, e78_42, e78_43, e78_46, e78_47, e78_48, e78_50, e78_56, e78_57, e78_59, e78_62, e78_63, e78_64, e78_65, e78_66, e78_67, e78_70, e78_73, e78_74, e78_75, e78_76, e78_79, e78_82, e78_83, e78_84, e78_85, e78_86, e78_89, e78_92, e78_95, m78, ↓reduceIte, qg_0, qg_1, qg_2, qg_3, qg_4, qg_5, qg_6, qg_7, qg_8, qg_9, qg_10, qg_11, qg_12, qg_13, not_true_eq_false, not_false_eq_true, Nat.reduceBEq, Bool.false_eq_true, ex1, ex3, ex4, exF, qfit_i, qfit_l, qfit_r, qfit_n, qfit_b0, qfit_b1, qcat_i, qcat_r, qcat_n, qcat_l, qroom_0, qroom_c, List.map_cons, List.map_nil, List.sum_cons, List.sum_nil, Nat.reduceAdd, Nat.reduceMul, Nat.reduceLT, Nat.reduceLeDiff, Nat.reduceEqDiff, Nat.reduceSub, decide_true, true_and, and_true, and_self, if_true, if_false, Option.toList_some, Option.toList_none, List.cons_append, List.nil_append, qsL, qlong, List.length_cons, List.length_nil, iN_L, exI, iN_add, iN_mul, iN_le, iN_lt, iN_eq, Nat.le_refl, qfN0, qfN1, uX_16, vX_16, uX_19, vX_19, uX_27, vX_27, uX_30, vX_30, uX_39, vX_39, uX_41, vX_41, uX_43, vX_43, uX_46, vX_46, uX_50, vX_50, uX_53, vX_53, gX_50_3, m3, p1, n1, show ¬ 8 < cn + 1 by omega, show cn + 1 ≤ 8 by omega]
  obtain ⟨F, eF⟩ : ∃ F : Option pFl, F = if cn = 8 then some (3, st) else none := ⟨_, rfl⟩
  rw [← eF] at f2
  have s2 := c2.sh
  have t2 := t1.ch c2 s1 (by intro z; cases z) (by decide)
  have v2 := v1.ch c2 (by decide)
  have m2 := (c2.xi (b := 50) (j := 5) (by decide) (by decide)).trans m1
  have n2 := (c2.xi (b := 50) (j := 3) (by decide) (by decide)).trans n1
  obtain ⟨g3, r3, c3, y3⟩ := x_putE (d := d + 3) (j := 0) (x := iN 4) s2 m2 hc (by decide)
  have s3 := c3.sh
  have t3 := t2.ch c3 s2 (by decide) (by intro z; cases z)
  have v3 := v2.ch c3 (by intro z; cases z)
  have f3 := f2.ch c3 (by intro z; cases z) (by intro z; cases z)
  have m3' := (c3.xi (b := 50) (j := 5) (by decide) (by intro z; cases z)).trans m2
  have n3 := (c3.xi (b := 50) (j := 3) (by decide) (by intro z; cases z)).trans n2
  obtain ⟨g4, x, r4, c4, a4, v4, f4, e4⟩ := x_who (d := d) (st := st) s3 t3 v3 f3
  have s4 := c4.sh
  have t4 := t3.ch c4 s3 (by intro z; cases z) (by decide)
  have m4 := (c4.xi (b := 50) (j := 5) (by decide) (by decide)).trans m3'
  have n4 := (c4.xi (b := 50) (j := 3) (by decide) (by decide)).trans n3
  obtain ⟨g5, r5, c5, y5⟩ := x_putE (d := d + 3) (j := 1) (x := x) s4 m4 hc (by decide)
  have s5 := c5.sh
  have t5 := t4.ch c5 s4 (by decide) (by intro z; cases z)
  have v5 := v4.ch c5 (by intro z; cases z)
  have f5 := f4.ch c5 (by intro z; cases z) (by intro z; cases z)
  have m5 := (c5.xi (b := 50) (j := 5) (by decide) (by intro z; cases z)).trans m4
  have n5 := (c5.xi (b := 50) (j := 3) (by decide) (by intro z; cases z)).trans n4
  obtain ⟨g6, r6, c6, a6, v6, f6, e6⟩ := x_needWord (d := d) (k := 8) (w := w_faces) s5 t5 v5 f5 ⟨by decide, by decide⟩ rfl (by decide) (by decide)
  have s6 := c6.sh
  have t6 := t5.ch c6 s5 (by intro z; cases z) (by decide)
  have m6 := (c6.xi (b := 50) (j := 5) (by decide) (by decide)).trans m5
  have n6 := (c6.xi (b := 50) (j := 3) (by decide) (by decide)).trans n5
  obtain ⟨g7, K, r7, hK, c7, a7, v7, f7, e7⟩ := x_takeNumber (d := d) (lo := 0) (hi' := 3) s6 t6 v6 f6 (by decide) (by decide)
  have s7 := c7.sh
  have t7 := t6.ch c7 s6 (by intro z; cases z) (by decide)
  have m7 := (c7.xi (b := 50) (j := 5) (by decide) (by decide)).trans m6
  have n7 := (c7.xi (b := 50) (j := 3) (by decide) (by decide)).trans n6
  obtain ⟨g8, r8, c8, y8⟩ := x_putE (d := d + 3) (j := 2) (x := iN K) s7 m7 hc (by decide)
  have s8 := c8.sh
  have t8 := t7.ch c8 s7 (by decide) (by intro z; cases z)
  have v8 := v7.ch c8 (by intro z; cases z)
  have f8 := f7.ch c8 (by intro z; cases z) (by intro z; cases z)
  have m8 := (c8.xi (b := 50) (j := 5) (by decide) (by intro z; cases z)).trans m7
  have n8 := (c8.xi (b := 50) (j := 3) (by decide) (by intro z; cases z)).trans n7
  obtain ⟨g9, y, r9, c9, a9, v9, f9, e9⟩ := x_takeCompare (d := d) s8 t8 v8 f8
  have s9 := c9.sh
  have t9 := t8.ch c9 s8 (by intro z; cases z) (by decide)
  have m9 := (c9.xi (b := 50) (j := 5) (by decide) (by decide)).trans m8
  have n9 := (c9.xi (b := 50) (j := 3) (by decide) (by decide)).trans n8
  obtain ⟨ga, ra, ca, ya⟩ := x_putE (d := d + 3) (j := 3) (x := y) s9 m9 hc (by decide)
  have sa := ca.sh
  have ta := t9.ch ca s9 (by decide) (by intro z; cases z)
  have va := v9.ch ca (by intro z; cases z)
  have fa := f9.ch ca (by intro z; cases z) (by intro z; cases z)
  have ma := (ca.xi (b := 50) (j := 5) (by decide) (by intro z; cases z)).trans m9
  have na := (ca.xi (b := 50) (j := 3) (by decide) (by intro z; cases z)).trans n9
  obtain ⟨gb, V, rb, hV, cb, ab, vb, fb, eb⟩ := x_takeNumber (d := d) (lo := 0) (hi' := 999) sa ta va fa (by decide) (by decide)
  have sb := cb.sh
  have mb := (cb.xi (b := 50) (j := 5) (by decide) (by decide)).trans ma
  have nb := (cb.xi (b := 50) (j := 3) (by decide) (by decide)).trans na
  obtain ⟨gc, rc, cc, yc⟩ := x_putE (d := d + 3) (j := 4) (x := iN V) sb mb hc (by decide)
  have rows : ∀ i, hi gc 52 i = if i = c * 5 + 4 then iN V else if i = c * 5 + 3 then y else if i = c * 5 + 2 then iN K else if i = c * 5 + 1 then x else if i = c * 5 + 0 then iN 4 else hi h 52 i := fun i => by
    rw [yc, row52 cb sa, ya, row52 c9 s8, y8, row52 c7 s6, row52 c6 s5, y5, row52 c4 s3, y3, row52 c2 s1, row52 c1 s]
  have M : ∀ {g g' : qH} {J : List (Nat × Nat)}, ChX [] J 0 g g' → (∀ x ∈ J, x ∈ [(50, 2), (50, 3), (50, 6), (50, 7)]) → ChX [52] [(50, 2), (50, 3), (50, 6), (50, 7)] 0 g g' := fun c hJ => c.mono (by intro _ z; cases z) hJ (Nat.le_refl _)
  have M' : ∀ {g g' : qH}, ChX [52] [] 0 g g' → ChX [52] [(50, 2), (50, 3), (50, 6), (50, 7)] 0 g g' := fun c => c.mono (fun _ z => z) (by intro _ z; cases z) (Nat.le_refl _)
  have call : ChX [52] [(50, 2), (50, 3), (50, 6), (50, 7)] 0 h gc := (M c1 (by decide)).trans0 <| (M c2 (by decide)).trans0 <| (M' c3).trans0 <| (M c4 (by decide)).trans0 <| (M' c5).trans0 <| (M c6 (by decide)).trans0 <| (M c7 (by decide)).trans0 <| (M' c8).trans0 <| (M c9 (by decide)).trans0 <| (M' ca).trans0 <| (M cb (by decide)).trans0 (M' cc)
  have er : (erQ (pWho tx a)).or ((erQ (pWrd tx a4 w_faces)).or ((erQ (pNum tx a6 0 3)).or ((erQ (pChr tx a7 isSg)).or (erQ (pNum tx a9 0 999))))) = erQ (pClm tx a) := by
    unfold pClm
    refine er_or fun q1 h1 => ?_
    rw [(e4 q1 h1).1]
    refine er_or fun q2 h2 => ?_
    rw [e6 q2 h2]
    refine er_or fun q3 h3 => ?_
    rw [show q3.1 = a7 from congrArg Prod.fst (e7 q3 h3)]
    refine er_or fun q4 h4 => ?_
    rw [(e9 q4 h4).1]
    exact er_map.symm
  have fall : FtX gc (erQ (clmQ tx a cn st)) := by
    have := fb.ch cc (by intro z; cases z) (by intro z; cases z)
    rw [Option.or_assoc, Option.or_assoc, Option.or_assoc, Option.or_assoc, er] at this
    unfold clmQ
    rw [eF] at this
    by_cases z : cn = 8
    · rw [if_pos z] at this ⊢; exact this
    · rw [if_neg z] at this ⊢; exact this
  refine ⟨gc, fun R => ?_, call, fun i hi' => ?_, (cc.xi (by decide) (by intro z; cases z)).trans nb, ab, vb.ch cc (by intro z; cases z), fall, fun r hr => ?_⟩
  · have ra0 : qEv (d + 4) 4 qk_78 25 [some (.ref 50), some (.int (iN st))] [] g2 R ↔ qEv (d + 4) 4 qk_78 33 [some (.ref 50), some (.int (iN st))] [.int (iN 1), .ref 50] g3 R := by
      rw [e78_25]
      simp (disch := first | assumption | omega) only [e78_0, e78_1, e78_2, e78_5, e78_6, e78_7, e78_10, e78_11, e78_14, e78_16, e78_19, e78_20, e78_21, e78_22, e78_26, e78_27, e78_28, e78_31, e78_32, e78_34, e78_36, e78_39, e78_42, e78_43, e78_46, e78_47, e78_48, e78_50, e78_56, e78_57, e78_59, e78_62, e78_63, e78_64, e78_65, e78_66, e78_67, e78_70, e78_73, e78_74, e78_75, e78_76, e78_79, e78_82, e78_83, e78_84, e78_85, e78_86, e78_89, e78_92, e78_95, m78, ↓reduceIte, qg_0, qg_1, qg_2, qg_3, qg_4, qg_5, qg_6, qg_7, qg_8, qg_9, qg_10, qg_11, qg_12, qg_13, not_true_eq_false, not_false_eq_true, Nat.reduceBEq, Bool.false_eq_true, ex1, ex3, ex4, exF, qfit_i, qfit_l, qfit_r, qfit_n, qfit_b0, qfit_b1, qcat_i, qcat_r, qcat_n, qcat_l, qroom_0, qroom_c, List.map_cons, List.map_nil, List.sum_cons, List.sum_nil, Nat.reduceAdd, Nat.reduceMul, Nat.reduceLT, Nat.reduceLeDiff, Nat.reduceEqDiff, Nat.reduceSub, decide_true, true_and, and_true, and_self, if_true, if_false, Option.toList_some, Option.toList_none, List.cons_append, List.nil_append, qsL, qlong, List.length_cons, List.length_nil, iN_L, exI, iN_add, iN_mul, iN_le, iN_lt, iN_eq, Nat.le_refl, qfN0, qfN1, uX_16, vX_16, uX_19, vX_19, uX_27, vX_27, uX_30, vX_30, uX_39, vX_39, uX_41, vX_41, uX_43, vX_43, uX_46, vX_46, uX_50, vX_50, uX_53, vX_53, r3]
    rw [r2 R, ra0, r4 R, e78_53]
    simp (disch := first | assumption | omega) only [e78_0, e78_1, e78_2, e78_5, e78_6, e78_7, e78_10, e78_11, e78_14, e78_16, e78_19, e78_20, e78_21, e78_22, e78_26, e78_27, e78_28, e78_31, e78_32, e78_34, e78_36, e78_39, e78_42, e78_43, e78_46, e78_47, e78_48, e78_50, e78_56, e78_57, e78_59, e78_62, e78_63, e78_64, e78_65, e78_66, e78_67, e78_70, e78_73, e78_74, e78_75, e78_76, e78_79, e78_82, e78_83, e78_84, e78_85, e78_86, e78_89, e78_92, e78_95, m78, ↓reduceIte, qg_0, qg_1, qg_2, qg_3, qg_4, qg_5, qg_6, qg_7, qg_8, qg_9, qg_10, qg_11, qg_12, qg_13, not_true_eq_false, not_false_eq_true, Nat.reduceBEq, Bool.false_eq_true, ex1, ex3, ex4, exF, qfit_i, qfit_l, qfit_r, qfit_n, qfit_b0, qfit_b1, qcat_i, qcat_r, qcat_n, qcat_l, qroom_0, qroom_c, List.map_cons, List.map_nil, List.sum_cons, List.sum_nil, Nat.reduceAdd, Nat.reduceMul, Nat.reduceLT, Nat.reduceLeDiff, Nat.reduceEqDiff, Nat.reduceSub, decide_true, true_and, and_true, and_self, if_true, if_false, Option.toList_some, Option.toList_none, List.cons_append, List.nil_append, qsL, qlong, List.length_cons, List.length_nil, iN_L, exI, iN_add, iN_mul, iN_le, iN_lt, iN_eq, Nat.le_refl, qfN0, qfN1, uX_16, vX_16, uX_19, vX_19, uX_27, vX_27, uX_30, vX_30, uX_39, vX_39, uX_41, vX_41, uX_43, vX_43, uX_46, vX_46, uX_50, vX_50, uX_53, vX_53, r5, r6, r7, r8, r9, ra, rb, rc]
  · rw [rows, if_neg (by omega), if_neg (by omega), if_neg (by omega), if_neg (by omega), if_neg (by omega)]
  · unfold clmQ at hr
    by_cases z : cn = 8
    · rw [if_pos z] at hr; cases hr
    · rw [if_neg z] at hr
      unfold pClm at hr
      obtain ⟨q1, h1, hr⟩ := pB_ok hr
      obtain ⟨i1, i2⟩ := e4 q1 h1
      rw [i1] at hr
      obtain ⟨q2, h2, hr⟩ := pB_ok hr
      rw [e6 q2 h2] at hr
      obtain ⟨q3, h3, hr⟩ := pB_ok hr
      have i3 := e7 q3 h3
      rw [i3] at hr
      obtain ⟨q4, h4, hr⟩ := pB_ok hr
      obtain ⟨i4, i5⟩ := e9 q4 h4
      rw [i4] at hr
      obtain ⟨q5, h5, hr⟩ := pB_ok hr
      have i6 := eb q5 h5
      injection hr with hr
      rw [← hr, i6]
      refine ⟨rfl, by rw [rows, if_neg (by omega), if_neg (by omega), if_neg (by omega), if_neg (by omega), if_pos (show c * 5 = c * 5 + 0 from rfl)], fun j hj => ?_⟩
      rw [rows]
      rcases (by omega : j = 0 ∨ j = 1 ∨ j = 2 ∨ j = 3) with rfl | rfl | rfl | rfl
      · rw [if_neg (by omega), if_neg (by omega), if_neg (by omega), if_pos rfl, i2]; rfl
      · rw [if_neg (by omega), if_neg (by omega), if_pos rfl]; rfl
      · rw [if_neg (by omega), if_pos rfl, i5]; rfl
      · rw [if_pos rfl]; rfl
end XCLAUSE

/-! ===== THE CLASS: read ===== -/
section XREAD
variable {d : Nat} {h : qH} {R : qRes} {tx : List Nat} {bs : List bdy} {cm : List clm} {sa : Nat → Nat}
theorem CmX.ch {A : List Nat} {J : List (Nat × Nat)} {k : Nat} {h' : qH} (t : CmX h cm) (c : ChX A J k h h') (s : ShX h) (hA : 54 ∉ A) (hJ : (53, 1) ∉ J) : CmX h' cm := ⟨⟨t.1.1, fun k hk j hj => by rw [c.hi hA (by decide) (s.lt (by decide))]; exact t.1.2 k hk j hj⟩, (c.xi (by decide) hJ).trans t.2⟩
theorem x_shp {k n m : Nat} (s : ShX h) (g : shpG k n m) (v : HtX h n []) : ∃ h', (∀ R, qMC (d + 3) 21 [.ref 19, .int (iN k), .int (iN m)] h R ↔ R = (none, h')) ∧ ChX [20] [(19, 1), (19, 2)] 0 h h' ∧ HtX h' n (tellAll n [] (shp k n m)) := by
  obtain ⟨hn, hk, hm⟩ := g
  rcases (by omega : k = 0 ∨ k = 1 ∨ k = 2 ∨ k = 3) with rfl | rfl | rfl | rfl
  · exact x_shpCube s hn v (iN m)
  · exact x_shpCross s hn v (iN m)
  · exact x_shpCorner s hn v (iN m)
  · exact x_shpRound s hn v (by have := (hm rfl).2; have := rMost_b (n := n); omega)
set_option maxRecDepth 100000 in
set_option maxHeartbeats 16000000 in
theorem x_doClaim {i : Nat} {c : clm} (s : ShX h) (vc : CmX h cm) (hl : cm.length < 8) (p : ptX h i (.inr c)) (hi' : i < 27) : ∃ h', (∀ R, qMC (d + 8) 187 [.ref 16, .int (iN i)] h R ↔ R = (some (.int (iN 1)), h')) ∧ ChX [54] [(53, 1)] 0 h h' ∧ CmX h' (cm ++ [c]) := by
  obtain ⟨p0, p1⟩ := p
  obtain ⟨h', r, c1, v1⟩ := x_addC (d := d + 6) (c := c) s vc hl
  have q0 : ∀ R, qMC (d + 7) 73 [.ref 50, .int (iN i), .int (iN 0)] h R ↔ R = (some (.int (iN 4)), h) := fun R => by rw [x_partC (d := d + 6) s (by omega), show i * 5 + 0 = i * 5 from rfl, p0]
  have q : ∀ j, j < 4 → ∀ R, qMC (d + 7) 73 [.ref 50, .int (iN i), .int (iN (1 + j))] h R ↔ R = (some (.int (cmI c j)), h) := fun j hj R => by rw [x_partC (d := d + 6) s (by omega), ← Nat.add_assoc, p1 j hj]
  have q1 := q 0 (by decide)
  have q2 := q 1 (by decide)
  have q3 := q 2 (by decide)
  have q4 := q 3 (by decide)
  refine ⟨h', fun R => ?_, c1, v1⟩
  simp (disch := first | assumption | omega) only [e187_0, e187_1, e187_4, e187_5, e187_6, e187_9, e187_10, e187_11, e187_12, e187_15, e187_16, e187_19, e187_20, e187_23, e187_24, e187_25, e187_28, e187_29, e187_32, e187_33, e187_34, e187_37, e187_38, e187_41, e187_42, e187_43, e187_46, e187_47, e187_50, e187_51, e187_52, e187_55, e187_58, e187_59, e187_60, e187_61, e187_64, e187_66, e187_69, e187_70, e187_71, e187_72, e187_75, e187_76, e187_79, e187_80, e187_81, e187_84, e187_87, e187_88, e187_91, e187_92, e187_93, e187_96, e187_97, e187_98, e187_101, e187_104, e187_105, e187_106, e187_109, e187_112, e187_113, e187_116, e187_117, m187, ↓reduceIte, qg_0, qg_1, qg_2, qg_3, qg_4, qg_5, qg_6, qg_7, qg_8, qg_9, qg_10, qg_11, qg_12, qg_13, not_true_eq_false, not_false_eq_true, Nat.reduceBEq, Bool.false_eq_true, ex1, ex3, ex4, exF, qfit_i, qfit_l, qfit_r, qfit_n, qfit_b0, qfit_b1, qcat_i, qcat_r, qcat_n, qcat_l, qroom_0, qroom_c, List.map_cons, List.map_nil, List.sum_cons, List.sum_nil, Nat.reduceAdd, Nat.reduceMul, Nat.reduceLT, Nat.reduceLeDiff, Nat.reduceEqDiff, Nat.reduceSub, decide_true, true_and, and_true, and_self, if_true, if_false, Option.toList_some, Option.toList_none, List.cons_append, List.nil_append, qsL, qlong, List.length_cons, List.length_nil, iN_L, exI, iN_add, iN_mul, iN_le, iN_lt, iN_eq, Nat.le_refl, qfN0, qfN1, uX_16, vX_16, uX_19, vX_19, uX_27, vX_27, uX_30, vX_30, uX_39, vX_39, uX_41, vX_41, uX_43, vX_43, uX_46, vX_46, uX_50, vX_50, uX_53, vX_53, gX_16_11, gX_16_12, q0, q1, q2, q3, q4, r]
set_option maxRecDepth 100000 in
set_option maxHeartbeats 16000000 in
theorem x_doFull {i k n m : Nat} (s : ShX h) (X : BsX h bs sa) (hb : bs.length = 24) (p : ptX h i (.inl (k, n, m))) (hk : k ≤ 3) (hi' : i < 27) : ∀ R, qMC (d + 8) 187 [.ref 16, .int (iN i)] h R ↔ R = (some (.int (iN 0)), h) := by
  obtain ⟨p0, p1, p2⟩ := p
  have q0 : ∀ R, qMC (d + 7) 73 [.ref 50, .int (iN i), .int (iN 0)] h R ↔ R = (some (.int (iN k)), h) := fun R => by rw [x_partC (d := d + 6) s (by omega), show i * 5 + 0 = i * 5 from rfl, p0]
  have m1 := X.2.1
  rw [hb] at m1
  intro R
  simp (disch := first | assumption | omega) only [e187_0, e187_1, e187_4, e187_5, e187_6, e187_9, e187_10, e187_11, e187_12, e187_15, e187_16, e187_19, e187_20, e187_23, e187_24, e187_25, e187_28, e187_29, e187_32, e187_33, e187_34, e187_37, e187_38, e187_41, e187_42, e187_43, e187_46, e187_47, e187_50, e187_51, e187_52, e187_55, e187_58, e187_59, e187_60, e187_61, e187_64, e187_66, e187_69, e187_70, e187_71, e187_72, e187_75, e187_76, e187_79, e187_80, e187_81, e187_84, e187_87, e187_88, e187_91, e187_92, e187_93, e187_96, e187_97, e187_98, e187_101, e187_104, e187_105, e187_106, e187_109, e187_112, e187_113, e187_116, e187_117, m187, ↓reduceIte, qg_0, qg_1, qg_2, qg_3, qg_4, qg_5, qg_6, qg_7, qg_8, qg_9, qg_10, qg_11, qg_12, qg_13, not_true_eq_false, not_false_eq_true, Nat.reduceBEq, Bool.false_eq_true, ex1, ex3, ex4, exF, qfit_i, qfit_l, qfit_r, qfit_n, qfit_b0, qfit_b1, qcat_i, qcat_r, qcat_n, qcat_l, qroom_0, qroom_c, List.map_cons, List.map_nil, List.sum_cons, List.sum_nil, Nat.reduceAdd, Nat.reduceMul, Nat.reduceLT, Nat.reduceLeDiff, Nat.reduceEqDiff, Nat.reduceSub, decide_true, true_and, and_true, and_self, if_true, if_false, Option.toList_some, Option.toList_none, List.cons_append, List.nil_append, qsL, qlong, List.length_cons, List.length_nil, iN_L, exI, iN_add, iN_mul, iN_le, iN_lt, iN_eq, Nat.le_refl, qfN0, qfN1, uX_16, vX_16, uX_19, vX_19, uX_27, vX_27, uX_30, vX_30, uX_39, vX_39, uX_41, vX_41, uX_43, vX_43, uX_46, vX_46, uX_50, vX_50, uX_53, vX_53, gX_16_11, gX_16_12, q0, show ¬ k = 4 by omega, gX_16_1, m1]
set_option maxRecDepth 100000 in
set_option maxHeartbeats 16000000 in
theorem x_doShape {i k n m : Nat} (s : ShX h) (X : BsX h bs sa) (hb : bs.length < 24) (p : ptX h i (.inl (k, n, m))) (g : shpG k n m) (hi' : i < 27) : ∃ h' sa', (∀ R, qMC (d + 8) 187 [.ref 16, .int (iN i)] h R ↔ R = (some (.int (iN 1)), h')) ∧ ChX bdA bdJ 16 h h' ∧ BsX h' (bs ++ [(tellAll n [] (shp k n m), n, 1)]) sa' := by
  obtain ⟨p0, p1, p2⟩ := p
  have hk := g.2.1
  have q0 : ∀ R, qMC (d + 7) 73 [.ref 50, .int (iN i), .int (iN 0)] h R ↔ R = (some (.int (iN k)), h) := fun R => by rw [x_partC (d := d + 6) s (by omega), show i * 5 + 0 = i * 5 from rfl, p0]
  have q1 : ∀ R, qMC (d + 7) 73 [.ref 50, .int (iN i), .int (iN 1)] h R ↔ R = (some (.int (iN n)), h) := fun R => by rw [x_partC (d := d + 6) s (by omega), p1]
  have m1 := X.2.1
  obtain ⟨h1, r1, c1, v1⟩ := x_begin (d := d + 6) (D := n) s (iN n) rfl
  have s1 := c1.sh
  have q2 : ∀ R, qMC (d + 7) 73 [.ref 50, .int (iN i), .int (iN 2)] h1 R ↔ R = (some (.int (iN m)), h1) := fun R => by rw [x_partC (d := d + 6) s1 (by omega), c1.hi (by decide) (by decide) (s.lt (by decide)), p2]
  obtain ⟨h2, r2, c2, v2⟩ := x_shp (d := d + 4) s1 g v1
  have s2 := c2.sh
  obtain ⟨ok, so⟩ := shp_ok g
  have c12 : ChX bdA bdJ 0 h h2 := (c1.mono (by decide) (by decide) (Nat.le_refl _)).trans0 (c2.mono (by decide) (by decide) (Nat.le_refl _))
  have X2 : BsX h2 bs sa := (X.ch s c1 (by decide) (by decide) (by decide)).ch s1 c2 (by decide) (by decide) (by decide)
  obtain ⟨h3, sa', r3, c3, X3⟩ := x_keepHull (d := d) (sc := 1) s2 X2 v2 ok hb (Or.inr ⟨so, rfl, rfl⟩)
  have r3' : ∀ R, qMC (d + 7) 183 [.ref 16, .int (iN 1)] h2 R ↔ R = (some (.int (iN bs.length)), h3) := r3
  refine ⟨h3, sa', fun R => ?_, (c12.trans (m := 16) c3).mono (fun _ z => z) (fun _ z => z) (by omega), X3⟩
  simp (disch := first | assumption | omega) only [e187_0, e187_1, e187_4, e187_5, e187_6, e187_9, e187_10, e187_11, e187_12, e187_15, e187_16, e187_19, e187_20, e187_23, e187_24, e187_25, e187_28, e187_29, e187_32, e187_33, e187_34, e187_37, e187_38, e187_41, e187_42, e187_43, e187_46, e187_47, e187_50, e187_51, e187_52, e187_55, e187_58, e187_59, e187_60, e187_61, e187_64, e187_66, e187_69, e187_70, e187_71, e187_72, e187_75, e187_76, e187_79, e187_80, e187_81, e187_84, e187_87, e187_88, e187_91, e187_92, e187_93, e187_96, e187_97, e187_98, e187_101, e187_104, e187_105, e187_106, e187_109, e187_112, e187_113, e187_116, e187_117, m187, ↓reduceIte, qg_0, qg_1, qg_2, qg_3, qg_4, qg_5, qg_6, qg_7, qg_8, qg_9, qg_10, qg_11, qg_12, qg_13, not_true_eq_false, not_false_eq_true, Nat.reduceBEq, Bool.false_eq_true, ex1, ex3, ex4, exF, qfit_i, qfit_l, qfit_r, qfit_n, qfit_b0, qfit_b1, qcat_i, qcat_r, qcat_n, qcat_l, qroom_0, qroom_c, List.map_cons, List.map_nil, List.sum_cons, List.sum_nil, Nat.reduceAdd, Nat.reduceMul, Nat.reduceLT, Nat.reduceLeDiff, Nat.reduceEqDiff, Nat.reduceSub, decide_true, true_and, and_true, and_self, if_true, if_false, Option.toList_some, Option.toList_none, List.cons_append, List.nil_append, qsL, qlong, List.length_cons, List.length_nil, iN_L, exI, iN_add, iN_mul, iN_le, iN_lt, iN_eq, Nat.le_refl, qfN0, qfN1, uX_16, vX_16, uX_19, vX_19, uX_27, vX_27, uX_30, vX_30, uX_39, vX_39, uX_41, vX_41, uX_43, vX_43, uX_46, vX_46, uX_50, vX_50, uX_53, vX_53, gX_16_11, gX_16_12, gX_16_4, q0, show ¬ k = 4 by omega, gX_16_1, m1, show ¬ 24 ≤ bs.length by omega, show bs.length < 24 by omega, q1, r1, gX_16_11 s1, q2, r2, r3', show ¬ bs.length < 0 by omega, iN10]
theorem ex_mono : ∀ (l : List cls4) (bs : List bdy) (cm : List clm), bs.length ≤ (exRun l bs cm).2.1.length
  | [], bs, cm => Nat.le_refl _
  | .inr c :: l, bs, cm => by rw [exRun_c]; exact ex_mono l bs (cm ++ [c])
  | .inl (k, n, m) :: l, bs, cm => by
    by_cases z : bs.length = 24
    · rw [exRun_f z]; exact Nat.le_refl _
    · rw [exRun_b z]
      have := ex_mono l (bs ++ [(tellAll n [] (shp k n m), n, 1)]) cm
      rw [List.length_append] at this
      exact Nat.le_trans (Nat.le_add_right _ _) this
def rdA' : List Nat := 54 :: bdA
def rdJ' : List (Nat × Nat) := (53, 1) :: bdJ
set_option maxRecDepth 100000 in
set_option maxHeartbeats 32000000 in
theorem x_readLoop : ∀ (l : List cls4) (i : Nat) (bs : List bdy) (cm : List clm) (sa : Nat → Nat) (g : qH), ShX g → BsX g bs sa → CmX g cm → i + l.length < 27 → xi g 50 5 = iN (i + l.length) → (∀ k, k < l.length → ptX g (i + k) (l.getD k l0c)) → (∀ x ∈ l, clG x) → cm.length + (l.flatMap clmOf).length ≤ 8 → ∃ h' sa', (∀ R, qEv (d + 8) 0 qk_172 45 [some (.ref 16), some (.int (iN i))] [] g R ↔ R = (some (.int (iN (i + (exRun l bs cm).1))), h')) ∧ ChX rdA' rdJ' (16 * ((exRun l bs cm).2.1.length - bs.length)) g h' ∧ BsX h' (exRun l bs cm).2.1 sa' ∧ CmX h' (exRun l bs cm).2.2
  | [], i, bs, cm, sa, g, s, X, vc, hi', m5, hp, hg, h8 => by
    refine ⟨g, sa, fun R => ?_, ChX.refl s, X, vc⟩
    have e : (exRun [] bs cm).1 = 0 := rfl
    rw [e, e172_45]
    have m5' : xi g 50 5 = iN i := m5
    simp (disch := first | assumption | omega) only [e172_0, e172_1, e172_4, e172_5, e172_8, e172_11, e172_14, e172_15, e172_18, e172_19, e172_22, e172_23, e172_26, e172_29, e172_32, e172_34, e172_35, e172_38, e172_41, e172_42, e172_43, e172_44, e172_46, e172_47, e172_50, e172_53, e172_56, e172_57, e172_58, e172_61, e172_64, e172_67, e172_70, e172_71, m172, ↓reduceIte, qg_0, qg_1, qg_2, qg_3, qg_4, qg_5, qg_6, qg_7, qg_8, qg_9, qg_10, qg_11, qg_12, qg_13, not_true_eq_false, not_false_eq_true, Nat.reduceBEq, Bool.false_eq_true, ex1, ex3, ex4, exF, qfit_i, qfit_l, qfit_r, qfit_n, qfit_b0, qfit_b1, qcat_i, qcat_r, qcat_n, qcat_l, qroom_0, qroom_c, List.map_cons, List.map_nil, List.sum_cons, List.sum_nil, Nat.reduceAdd, Nat.reduceMul, Nat.reduceLT, Nat.reduceLeDiff, Nat.reduceEqDiff, Nat.reduceSub, decide_true, true_and, and_true, and_self, if_true, if_false, Option.toList_some, Option.toList_none, List.cons_append, List.nil_append, qsL, qlong, List.length_cons, List.length_nil, iN_L, exI, iN_add, iN_mul, iN_le, iN_lt, iN_eq, Nat.le_refl, qfN0, qfN1, uX_16, vX_16, uX_19, vX_19, uX_27, vX_27, uX_30, vX_30, uX_39, vX_39, uX_41, vX_41, uX_43, vX_43, uX_46, vX_46, uX_50, vX_50, uX_53, vX_53, gX_16_11, gX_50_5, m5', Nat.add_zero i]
  | .inr c :: l, i, bs, cm, sa, g, s, X, vc, hi', m5, hp, hg, h8 => by
    rw [List.length_cons] at hi' m5
    have hl : cm.length < 8 := by
      have : ((Sum.inr c :: l : List cls4).flatMap clmOf).length = 1 + (l.flatMap clmOf).length := by rw [List.flatMap_cons, List.length_append]; rfl
      omega
    obtain ⟨g1, r1, c1, v1⟩ := x_doClaim (d := d) (i := i) s vc hl (hp 0 (by rw [List.length_cons]; omega)) (by omega)
    have s1 := c1.sh
    have X1 := X.ch s c1 (by decide) (by decide) (by decide)
    obtain ⟨h', sa', r', c', X', v'⟩ := x_readLoop l (i + 1) bs (cm ++ [c]) sa g1 s1 X1 v1 (by omega) (by rw [c1.xi (by decide) (by decide), m5]; congr 1; omega) (fun k hk => by
      have := hp (k + 1) (by rw [List.length_cons]; omega)
      rw [show i + (k + 1) = i + 1 + k by omega] at this
      exact this.keep fun j _ => by rw [c1.hi (by decide) (by decide) (s.lt (by decide))]) (fun x hx => hg x (List.mem_cons_of_mem _ hx)) (by
      have : ((Sum.inr c :: l : List cls4).flatMap clmOf).length = 1 + (l.flatMap clmOf).length := by rw [List.flatMap_cons, List.length_append]; rfl
      rw [List.length_append, List.length_singleton]; omega)
    rw [exRun_c]
    refine ⟨h', sa', fun R => ?_, ((c1.mono (by decide) (by decide) (Nat.le_refl _)).trans c').mono (fun _ z => z) (fun _ z => z) (by dsimp only; omega), X', v'⟩
    have er : i + ((exRun l bs (cm ++ [c])).1 + 1) = i + 1 + (exRun l bs (cm ++ [c])).1 := by omega
    dsimp only
    rw [er, ← r' R, e172_45]
    simp (disch := first | assumption | omega) only [e172_0, e172_1, e172_4, e172_5, e172_8, e172_11, e172_14, e172_15, e172_18, e172_19, e172_22, e172_23, e172_26, e172_29, e172_32, e172_34, e172_35, e172_38, e172_41, e172_42, e172_43, e172_44, e172_46, e172_47, e172_50, e172_53, e172_56, e172_57, e172_58, e172_61, e172_64, e172_67, e172_70, e172_71, m172, ↓reduceIte, qg_0, qg_1, qg_2, qg_3, qg_4, qg_5, qg_6, qg_7, qg_8, qg_9, qg_10, qg_11, qg_12, qg_13, not_true_eq_false, not_false_eq_true, Nat.reduceBEq, Bool.false_eq_true, ex1, ex3, ex4, exF, qfit_i, qfit_l, qfit_r, qfit_n, qfit_b0, qfit_b1, qcat_i, qcat_r, qcat_n, qcat_l, qroom_0, qroom_c, List.map_cons, List.map_nil, List.sum_cons, List.sum_nil, Nat.reduceAdd, Nat.reduceMul, Nat.reduceLT, Nat.reduceLeDiff, Nat.reduceEqDiff, Nat.reduceSub, decide_true, true_and, and_true, and_self, if_true, if_false, Option.toList_some, Option.toList_none, List.cons_append, List.nil_append, qsL, qlong, List.length_cons, List.length_nil, iN_L, exI, iN_add, iN_mul, iN_le, iN_lt, iN_eq, Nat.le_refl, qfN0, qfN1, uX_16, vX_16, uX_19, vX_19, uX_27, vX_27, uX_30, vX_30, uX_39, vX_39, uX_41, vX_41, uX_43, vX_43, uX_46, vX_46, uX_50, vX_50, uX_53, vX_53, gX_16_11, gX_50_5, m5, show ¬ i + (l.length + 1) ≤ i by omega, r1, iN10]
  | .inl (k, n, m) :: l, i, bs, cm, sa, g, s, X, vc, hi', m5, hp, hg, h8 => by
    rw [List.length_cons] at hi' m5
    have gk : shpG k n m := hg _ List.mem_cons_self
    have p0 := hp 0 (by rw [List.length_cons]; omega)
    by_cases z : bs.length = 24
    · have r1 := x_doFull (d := d) (i := i) s X z p0 gk.2.1 (by omega)
      rw [exRun_f z]
      refine ⟨g, sa, fun R => ?_, ChX.refl s, X, vc⟩
      rw [e172_45]
      simp (disch := first | assumption | omega) only [e172_0, e172_1, e172_4, e172_5, e172_8, e172_11, e172_14, e172_15, e172_18, e172_19, e172_22, e172_23, e172_26, e172_29, e172_32, e172_34, e172_35, e172_38, e172_41, e172_42, e172_43, e172_44, e172_46, e172_47, e172_50, e172_53, e172_56, e172_57, e172_58, e172_61, e172_64, e172_67, e172_70, e172_71, m172, ↓reduceIte, qg_0, qg_1, qg_2, qg_3, qg_4, qg_5, qg_6, qg_7, qg_8, qg_9, qg_10, qg_11, qg_12, qg_13, not_true_eq_false, not_false_eq_true, Nat.reduceBEq, Bool.false_eq_true, ex1, ex3, ex4, exF, qfit_i, qfit_l, qfit_r, qfit_n, qfit_b0, qfit_b1, qcat_i, qcat_r, qcat_n, qcat_l, qroom_0, qroom_c, List.map_cons, List.map_nil, List.sum_cons, List.sum_nil, Nat.reduceAdd, Nat.reduceMul, Nat.reduceLT, Nat.reduceLeDiff, Nat.reduceEqDiff, Nat.reduceSub, decide_true, true_and, and_true, and_self, if_true, if_false, Option.toList_some, Option.toList_none, List.cons_append, List.nil_append, qsL, qlong, List.length_cons, List.length_nil, iN_L, exI, iN_add, iN_mul, iN_le, iN_lt, iN_eq, Nat.le_refl, qfN0, qfN1, uX_16, vX_16, uX_19, vX_19, uX_27, vX_27, uX_30, vX_30, uX_39, vX_39, uX_41, vX_41, uX_43, vX_43, uX_46, vX_46, uX_50, vX_50, uX_53, vX_53, gX_16_11, gX_50_5, m5, show ¬ i + (l.length + 1) ≤ i by omega, r1, Nat.add_zero i]
    · have b24 := X.1
      obtain ⟨g1, sa1, r1, c1, X1⟩ := x_doShape (d := d) (i := i) s X (by omega) p0 gk (by omega)
      have s1 := c1.sh
      have v1 := vc.ch c1 s (by decide) (by decide)
      obtain ⟨h', sa', r', c', X', v'⟩ := x_readLoop l (i + 1) (bs ++ [(tellAll n [] (shp k n m), n, 1)]) cm sa1 g1 s1 X1 v1 (by omega) (by rw [c1.xi (by decide) (by decide), m5]; congr 1; omega) (fun k hk => by
        have := hp (k + 1) (by rw [List.length_cons]; omega)
        rw [show i + (k + 1) = i + 1 + k by omega] at this
        exact this.keep fun j _ => by rw [c1.hi (by decide) (by decide) (s.lt (by decide))]) (fun x hx => hg x (List.mem_cons_of_mem _ hx)) (by
        have : ((Sum.inl (k, n, m) :: l : List cls4).flatMap clmOf).length = (l.flatMap clmOf).length := by rw [List.flatMap_cons, List.length_append]; exact Nat.zero_add _
        omega)
      have mo := ex_mono l (bs ++ [(tellAll n [] (shp k n m), n, 1)]) cm
      rw [exRun_b z]
      rw [List.length_append, List.length_singleton] at c' mo
      refine ⟨h', sa', fun R => ?_, ((c1.mono (by decide) (by decide) (Nat.le_refl _)).trans c').mono (fun _ z => z) (fun _ z => z) (by dsimp only; omega), X', v'⟩
      have er : i + ((exRun l (bs ++ [(tellAll n [] (shp k n m), n, 1)]) cm).1 + 1) = i + 1 + (exRun l (bs ++ [(tellAll n [] (shp k n m), n, 1)]) cm).1 := by omega
      dsimp only
      rw [er, ← r' R, e172_45]
      simp (disch := first | assumption | omega) only [e172_0, e172_1, e172_4, e172_5, e172_8, e172_11, e172_14, e172_15, e172_18, e172_19, e172_22, e172_23, e172_26, e172_29, e172_32, e172_34, e172_35, e172_38, e172_41, e172_42, e172_43, e172_44, e172_46, e172_47, e172_50, e172_53, e172_56, e172_57, e172_58, e172_61, e172_64, e172_67, e172_70, e172_71, m172, ↓reduceIte, qg_0, qg_1, qg_2, qg_3, qg_4, qg_5, qg_6, qg_7, qg_8, qg_9, qg_10, qg_11, qg_12, qg_13, not_true_eq_false, not_false_eq_true, Nat.reduceBEq, Bool.false_eq_true, ex1, ex3, ex4, exF, qfit_i, qfit_l, qfit_r, qfit_n, qfit_b0, qfit_b1, qcat_i, qcat_r, qcat_n, qcat_l, qroom_0, qroom_c, List.map_cons, List.map_nil, List.sum_cons, List.sum_nil, Nat.reduceAdd, Nat.reduceMul, Nat.reduceLT, Nat.reduceLeDiff, Nat.reduceEqDiff, Nat.reduceSub, decide_true, true_and, and_true, and_self, if_true, if_false, Option.toList_some, Option.toList_none, List.cons_append, List.nil_append, qsL, qlong, List.length_cons, List.length_nil, iN_L, exI, iN_add, iN_mul, iN_le, iN_lt, iN_eq, Nat.le_refl, qfN0, qfN1, uX_16, vX_16, uX_19, vX_19, uX_27, vX_27, uX_30, vX_30, uX_39, vX_39, uX_41, vX_41, uX_43, vX_43, uX_46, vX_46, uX_50, vX_50, uX_53, vX_53, gX_16_11, gX_50_5, m5, show ¬ i + (l.length + 1) ≤ i by omega, r1, iN10]
set_option maxRecDepth 100000 in
set_option maxHeartbeats 32000000 in
theorem x_read {v ft : Int32} {bs' : List bdy} {cm' : List clm} (s : ShX h) (X : BsX h bs sa) (vc : CmX h cm) (t : TxX h tx) (hv : redR tx bs cm v bs' cm' ft) : ∃ h' sa', (∀ R, qMC (d + 9) 172 [.ref 16] h R ↔ R = (some (.int v), h')) ∧ ChX (52 :: rdA') ([(50, 1), (50, 2), (50, 3), (50, 5), (50, 6), (50, 7)] ++ rdJ') (16 * (bs'.length - bs.length)) h h' ∧ BsX h' bs' sa' ∧ CmX h' cm' ∧ TxX h' [] ∧ xi h' 50 7 = ft := by
  have h8 := vc.1.1
  have mc := vc.2
  obtain ⟨h1, r1, c1, p1⟩ := x_parse (d := d) s t h8
  have s1 := c1.sh
  obtain ⟨h2, e2⟩ : ∃ h2, h2 = xV h1 50 1 (.int (iN 0)) := ⟨_, rfl⟩
  have w2 : qput h1 50 6 1 (.int (iN 0)) = some h2 := by rw [e2]; exact pX_50_1 s1
  have c2 : ChX [] [(50, 1)] 0 h1 h2 := by rw [e2]; exact ChX.setI s1 (by decide) (by decide)
  have s2 := c2.sh
  have x1 : xi h2 50 1 = iN 0 := by rw [e2, xi_xV, if_pos ⟨rfl, rfl⟩]
  have X2 := (X.ch s c1 (by decide) (by decide) (by decide)).ch s1 c2 (by intro x z; cases z) (by intro z; cases z) (by decide)
  have v2 := (vc.ch c1 s (by decide) (by decide)).ch c2 s1 (by intro z; cases z) (by decide)
  have c12 : ChX (52 :: rdA') ([(50, 1), (50, 2), (50, 3), (50, 5), (50, 6), (50, 7)] ++ rdJ') 0 h h2 := (c1.mono (by decide) (by decide) (Nat.le_refl _)).trans0 (c2.mono (by intro _ z; cases z) (by decide) (Nat.le_refl _))
  unfold redR at hv
  cases hq : pAll tx (tx.length + 1) 0 cm.length with
  | inl e =>
    rw [hq] at hv p1
    obtain ⟨k, p⟩ := e
    obtain ⟨rfl, rfl, rfl, rfl⟩ := hv
    have f2 := (show FtX h1 (some (k, p)) from p1).ch c2 (by decide) (by decide)
    have k6 := f2.2.1
    have kb := f2.1
    refine ⟨h2, sa, fun R => ?_, c12.mono (fun _ z => z) (fun _ z => z) (Nat.zero_le _), X2, v2, ⟨by decide, x1, fun k hk => absurd hk (Nat.not_lt_zero k)⟩, f2.2.2⟩
    simp (disch := first | assumption | omega) only [e172_0, e172_1, e172_4, e172_5, e172_8, e172_11, e172_14, e172_15, e172_18, e172_19, e172_22, e172_23, e172_26, e172_29, e172_32, e172_34, e172_35, e172_38, e172_41, e172_42, e172_43, e172_44, e172_46, e172_47, e172_50, e172_53, e172_56, e172_57, e172_58, e172_61, e172_64, e172_67, e172_70, e172_71, m172, ↓reduceIte, qg_0, qg_1, qg_2, qg_3, qg_4, qg_5, qg_6, qg_7, qg_8, qg_9, qg_10, qg_11, qg_12, qg_13, not_true_eq_false, not_false_eq_true, Nat.reduceBEq, Bool.false_eq_true, ex1, ex3, ex4, exF, qfit_i, qfit_l, qfit_r, qfit_n, qfit_b0, qfit_b1, qcat_i, qcat_r, qcat_n, qcat_l, qroom_0, qroom_c, List.map_cons, List.map_nil, List.sum_cons, List.sum_nil, Nat.reduceAdd, Nat.reduceMul, Nat.reduceLT, Nat.reduceLeDiff, Nat.reduceEqDiff, Nat.reduceSub, decide_true, true_and, and_true, and_self, if_true, if_false, Option.toList_some, Option.toList_none, List.cons_append, List.nil_append, qsL, qlong, List.length_cons, List.length_nil, iN_L, exI, iN_add, iN_mul, iN_le, iN_lt, iN_eq, Nat.le_refl, qfN0, qfN1, uX_16, vX_16, uX_19, vX_19, uX_27, vX_27, uX_30, vX_30, uX_39, vX_39, uX_41, vX_41, uX_43, vX_43, uX_46, vX_46, uX_50, vX_50, uX_53, vX_53, gX_16_11, gX_16_12, gX_53_1, mc, r1, gX_16_11 s1, w2, gX_16_11 s2, gX_50_6 s2, k6, show ¬ k = 0 by have := kb.1; omega]
  | inr l =>
    rw [hq] at hv p1
    obtain ⟨rfl, rfl, rfl, rfl⟩ := hv
    obtain ⟨f1, n5, pt⟩ := p1
    have f2 := f1.ch c2 (by decide) (by decide)
    have k6 := f2.1
    obtain ⟨o1, o2, o3⟩ := pAll_ok (tx.length + 1) 0 cm.length l (Nat.zero_le _) h8 hq
    have l160 := t.1
    obtain ⟨h', sa', r', c', X', v'⟩ := x_readLoop (d := d) l 0 bs cm sa h2 s2 X2 v2 (by omega) ((c2.xi (by decide) (by decide)).trans n5) (fun k hk => by
      have := pt k (by omega)
      rw [List.nil_append] at this
      rw [Nat.zero_add]
      exact this.keep fun j _ => by rw [c2.hi (by intro z; cases z) (by decide) (s1.lt (by decide))]) o1 o2
    rw [Nat.zero_add] at r'
    refine ⟨h', sa', fun R => ?_, (c12.trans (c'.mono (by decide) (fun _ z => List.mem_append_right _ z) (Nat.le_refl _))).mono (fun _ z => z) (fun _ z => z) (by omega), X', v', ⟨by decide, (c'.xi (by decide) (by decide)).trans x1, fun k hk => absurd hk (Nat.not_lt_zero k)⟩, (c'.xi (by decide) (by decide)).trans f2.2⟩
    rw [← r' R]
    simp (disch := first | assumption | omega) only [e172_0, e172_1, e172_4, e172_5, e172_8, e172_11, e172_14, e172_15, e172_18, e172_19, e172_22, e172_23, e172_26, e172_29, e172_32, e172_34, e172_35, e172_38, e172_41, e172_42, e172_43, e172_44, e172_46, e172_47, e172_50, e172_53, e172_56, e172_57, e172_58, e172_61, e172_64, e172_67, e172_70, e172_71, m172, ↓reduceIte, qg_0, qg_1, qg_2, qg_3, qg_4, qg_5, qg_6, qg_7, qg_8, qg_9, qg_10, qg_11, qg_12, qg_13, not_true_eq_false, not_false_eq_true, Nat.reduceBEq, Bool.false_eq_true, ex1, ex3, ex4, exF, qfit_i, qfit_l, qfit_r, qfit_n, qfit_b0, qfit_b1, qcat_i, qcat_r, qcat_n, qcat_l, qroom_0, qroom_c, List.map_cons, List.map_nil, List.sum_cons, List.sum_nil, Nat.reduceAdd, Nat.reduceMul, Nat.reduceLT, Nat.reduceLeDiff, Nat.reduceEqDiff, Nat.reduceSub, decide_true, true_and, and_true, and_self, if_true, if_false, Option.toList_some, Option.toList_none, List.cons_append, List.nil_append, qsL, qlong, List.length_cons, List.length_nil, iN_L, exI, iN_add, iN_mul, iN_le, iN_lt, iN_eq, Nat.le_refl, qfN0, qfN1, uX_16, vX_16, uX_19, vX_19, uX_27, vX_27, uX_30, vX_30, uX_39, vX_39, uX_41, vX_41, uX_43, vX_43, uX_46, vX_46, uX_50, vX_50, uX_53, vX_53, gX_16_11, gX_16_12, gX_53_1, mc, r1, gX_16_11 s1, w2, gX_16_11 s2, gX_50_6 s2, k6]
end XREAD

/-! ===== THE CLASS: a cut is aimed; what is kept, what is crossed ===== -/
section XSECTION
variable {d D : Nat} {h : qH} {R : qRes} {l : List pt4} {bs : List bdy} {sa : Nat → Nat}
def secJ : List (Nat × Nat) := [(27, 0), (27, 2), (27, 3)]
/-- a cut is aimed at body i: levels, the axis that is dropped (4: none) -/
noncomputable def SeX (h : qH) (bs : List bdy) (sa : Nat → Nat) (i : Nat) (lv : Nat → Int) (w : Nat) : Prop := hf h 27 0 = .ref (sa i) ∧ xi h 27 2 = (if w = 4 then -iN 1 else iN w) ∧ w ≤ 4 ∧ ∀ c, c < (cnr bs i).length → hi h 28 c = iZ (lv c) ∧ -50000 ≤ lv c ∧ lv c ≤ 50000
theorem SeX.ch {A : List Nat} {J : List (Nat × Nat)} {k i w : Nat} {lv : Nat → Int} {h' : qH} (v : SeX h bs sa i lv w) (c : ChX A J k h h') (s : ShX h) (h1 : 28 ∉ A) (h2 : (27, 0) ∉ J) (h3 : (27, 2) ∉ J) : SeX h' bs sa i lv w := by
  obtain ⟨v1, v2, v3, v4⟩ := v
  refine ⟨(c.hf (by decide) h2).trans v1, (c.xi (by decide) h3).trans v2, v3, fun t ht => ?_⟩
  rw [c.hi h1 (by decide) (s.lt (by decide))]
  exact v4 t ht
theorem SeX.from {i w : Nat} {lv : Nat → Int} (s : ShX h) (v : SeX h bs sa i lv w) : qget h 27 7 0 = some (.ref (sa i)) := by rw [gX_27_0 s, v.1]
theorem SeX.lvl {i w : Nat} {lv : Nat → Int} (s : ShX h) (v : SeX h bs sa i lv w) (n16 : (cnr bs i).length ≤ 16) {c : Nat} (hc : c < (cnr bs i).length) : qiald h 28 (iN c) = some (iZ (lv c)) := by rw [rX_28 s (by omega), (v.2.2.2 c hc).1]
theorem lv_B {x : Int} (h : -50000 ≤ x ∧ x ≤ 50000) : iB x := by unfold iB; omega
theorem lv_0 {x : Int} (h : -50000 ≤ x ∧ x ≤ 50000) : (iZ x < iN 0 ↔ x < 0) ∧ (iN 0 < iZ x ↔ 0 < x) ∧ (iZ x = iN 0 ↔ x = 0) ∧ (iZ x ≤ iN 0 ↔ x ≤ 0) ∧ (iN 0 ≤ iZ x ↔ 0 ≤ x) := by
  have b := lv_B h
  have b0 : iB 0 := by unfold iB; omega
  rw [show iN 0 = iZ 0 from rfl]
  exact ⟨iZ_lt b b0, iZ_lt b0 b, iZ_eq b b0, iZ_le b b0, iZ_le b0 b⟩
theorem a4_at (x0 x1 x2 x3 : Int32) : a4 x0 x1 x2 x3 0 = x0.toInt ∧ a4 x0 x1 x2 x3 1 = x1.toInt ∧ a4 x0 x1 x2 x3 2 = x2.toInt ∧ a4 x0 x1 x2 x3 3 = x3.toInt := ⟨rfl, rfl, rfl, rfl⟩
theorem tlS4 {A : Nat → Int} {cs : List pt4} {C : Nat → List Nat} {c : Nat} (P : SoP D cs C) : tlS A cs c D = A 0 * lP cs c 0 + A 1 * lP cs c 1 + A 2 * lP cs c 2 + A 3 * lP cs c 3 := by
  have hD := P.1
  have z := P.2.2.2.1 c
  have h3 : D = 2 ∨ D = 3 ∨ D = 4 := by omega
  unfold tlS
  rcases h3 with rfl | rfl | rfl
  · rw [z 2 (by decide) (by decide), z 3 (by decide) (by decide), Int.mul_zero, Int.mul_zero]
    simp only [sumZ]; omega
  · rw [z 3 (by decide) (by decide), Int.mul_zero]
    simp only [sumZ]; omega
  · simp only [sumZ]; omega
theorem iZ_i (x : Int32) : x = iZ x.toInt := (iZ_of x).symm
set_option maxRecDepth 100000 in
set_option maxHeartbeats 16000000 in
theorem x_aimHalf {i : Nat} {x0 x1 x2 x3 y : Int32} (s : ShX h) (X : BsX h bs sa) (hi' : i < bs.length) (lb : ∀ c, c < (cnr bs i).length → -50000 ≤ cutV bs i (a4 x0 x1 x2 x3) y.toInt (cnr bs i) c ∧ cutV bs i (a4 x0 x1 x2 x3) y.toInt (cnr bs i) c ≤ 50000) : ∃ h', (∀ R, qMC (d + 2) 88 [.ref 27, .ref (sa i), .int x0, .int x1, .int x2, .int x3, .int y] h R ↔ R = (none, h')) ∧ ChX [28] secJ 0 h h' ∧ SeX h' bs sa i (cutV bs i (a4 x0 x1 x2 x3) y.toInt (cnr bs i)) 4 := by
  obtain ⟨p, q, w, e, B, S, P⟩ := X.at hi'
  have n16 := P.2.1.2
  obtain ⟨lv, elv⟩ : ∃ lv, lv = cutV bs i (a4 x0 x1 x2 x3) y.toInt (cnr bs i) := ⟨_, rfl⟩
  rw [← elv] at lb ⊢
  obtain ⟨h1, e1⟩ : ∃ h1, h1 = xV h 27 0 (.ref (sa i)) := ⟨_, rfl⟩
  have c1 : ChX [28] secJ 0 h h1 := by rw [e1]; exact ChX.setR s (by decide) (by decide)
  have s1 := c1.sh
  have p1 : qput h 27 7 0 (.ref (sa i)) = some h1 := by rw [e1]; exact pX_27_0 s
  obtain ⟨h2, e2⟩ : ∃ h2, h2 = xV h1 27 2 (.int (-iN 1)) := ⟨_, rfl⟩
  have c2 : ChX [28] secJ 0 h h2 := c1.trans0 (by rw [e2]; exact ChX.setI s1 (by decide) (by decide))
  have s2 := c2.sh
  have p2 : qput h1 27 7 2 (.int (-iN 1)) = some h2 := by rw [e2]; exact pX_27_2 s1
  have k28 := kX_28 s2
  obtain ⟨H, eH⟩ : ∃ H : Nat → qH, H = fun t => sI h2 28 (fun c => if c < t then iZ (lv c) else hi h2 28 c) := ⟨_, rfl⟩
  have cH : ∀ t, ChX [28] secJ 0 h (H t) := fun t => by rw [eH]; exact c2.trans0 (ChX.rowI s2 k28 (by decide) (by decide))
  have H0 : h2 = H 0 := by
    rw [eH]
    have : (fun c => if c < 0 then iZ (lv c) else hi h2 28 c) = hi h2 28 := by funext c; rw [if_neg (Nat.not_lt_zero c)]
    show h2 = sI h2 28 (fun c => if c < 0 then iZ (lv c) else hi h2 28 c)
    rw [this, sI_id k28]
  refine ⟨H (cnr bs i).length, fun R => ?_, cH _, ?_, ?_, Nat.le_refl 4, fun c hc => ⟨?_, lb c hc⟩⟩
  · have r0 : qMC (d + 2) 88 [.ref 27, .ref (sa i), .int x0, .int x1, .int x2, .int x3, .int y] h R ↔ qEv (d + 1) 4 qk_88 13 [some (.ref 27), some (.ref (sa i)), some (.int x0), some (.int x1), some (.int x2), some (.int x3), some (.int y), some (.int (iN 0))] [] (H 0) R := by
      rw [← H0]
      simp (disch := first | assumption | omega) only [e88_0, e88_1, e88_2, e88_5, e88_6, e88_7, e88_10, e88_11, e88_15, e88_16, e88_19, e88_22, e88_23, e88_26, e88_28, e88_29, e88_30, e88_32, e88_33, e88_36, e88_37, e88_38, e88_39, e88_41, e88_42, e88_45, e88_46, e88_47, e88_49, e88_50, e88_52, e88_53, e88_56, e88_57, e88_58, e88_60, e88_61, e88_63, e88_64, e88_67, e88_68, e88_69, e88_71, e88_72, e88_73, e88_76, e88_79, m88, ↓reduceIte, qg_0, qg_1, qg_2, qg_3, qg_4, qg_5, qg_6, qg_7, qg_8, qg_9, qg_10, qg_11, qg_12, qg_13, not_true_eq_false, not_false_eq_true, Nat.reduceBEq, Bool.false_eq_true, ex1, ex3, ex4, exF, qfit_i, qfit_l, qfit_r, qfit_n, qfit_b0, qfit_b1, qcat_i, qcat_r, qcat_n, qcat_l, qroom_0, qroom_c, List.map_cons, List.map_nil, List.sum_cons, List.sum_nil, Nat.reduceAdd, Nat.reduceMul, Nat.reduceLT, Nat.reduceLeDiff, Nat.reduceEqDiff, Nat.reduceSub, decide_true, true_and, and_true, and_self, if_true, if_false, Option.toList_some, Option.toList_none, List.cons_append, List.nil_append, qsL, qlong, List.length_cons, List.length_nil, iN_L, exI, iN_add, iN_mul, iN_le, iN_lt, iN_eq, Nat.le_refl, qfN0, qfN1, uX_16, vX_16, uX_19, vX_19, uX_27, vX_27, uX_30, vX_30, uX_39, vX_39, uX_41, vX_41, uX_43, vX_43, uX_46, vX_46, uX_50, vX_50, uX_53, vX_53, uX_27, vX_27, p1, p2]
    rw [r0]
    refine Iff.trans (loop_up (n := (cnr bs i).length) (L := fun t => [some (.ref 27), some (.ref (sa i)), some (.int x0), some (.int x1), some (.int x2), some (.int x3), some (.int y), some (.int (iN t))]) (H := H) ?_) ?_
    · intro t ht
      try dsimp only
      have st := (cH t).sh
      obtain ⟨p', q', w', e', B', S', P'⟩ := (X.ch s (cH t) (by decide) (by decide) (by decide)).at hi'
      obtain ⟨⟨u16, ult, uF⟩, g0, g1, g2, g3, g4, g5, g6⟩ := S'.obj
      have t0 : ∀ R, qMC (d + 1) 104 [.ref (sa i), .int (iN t), .int (iN 0)] (H t) R ↔ R = (some (.int (iZ (lP (cnr bs i) t 0))), H t) := fun R => x_at S' ht (by decide)
      have t1 : ∀ R, qMC (d + 1) 104 [.ref (sa i), .int (iN t), .int (iN 1)] (H t) R ↔ R = (some (.int (iZ (lP (cnr bs i) t 1))), H t) := fun R => x_at S' ht (by decide)
      have t2 : ∀ R, qMC (d + 1) 104 [.ref (sa i), .int (iN t), .int (iN 2)] (H t) R ↔ R = (some (.int (iZ (lP (cnr bs i) t 2))), H t) := fun R => x_at S' ht (by decide)
      have t3 : ∀ R, qMC (d + 1) 104 [.ref (sa i), .int (iN t), .int (iN 3)] (H t) R ↔ R = (some (.int (iZ (lP (cnr bs i) t 3))), H t) := fun R => x_at S' ht (by decide)
      have ev : x0 * iZ (lP (cnr bs i) t 0) + x1 * iZ (lP (cnr bs i) t 1) + x2 * iZ (lP (cnr bs i) t 2) + x3 * iZ (lP (cnr bs i) t 3) - y = iZ (lv t) := by
        rw [elv]
        unfold cutV
        rw [tlS4 P, (a4_at x0 x1 x2 x3).1, (a4_at x0 x1 x2 x3).2.1, (a4_at x0 x1 x2 x3).2.2.1, (a4_at x0 x1 x2 x3).2.2.2, ← iZ_sub, ← iZ_add, ← iZ_add, ← iZ_add, ← iZ_mul, ← iZ_mul, ← iZ_mul, ← iZ_mul, iZ_of, iZ_of, iZ_of, iZ_of, iZ_of]
      have wt : qiast (H t) 28 (iN t) (iZ (lv t)) = some (H (t + 1)) := by
        rw [wX_28 st (by omega), eH]
        show some (sI (sI h2 28 _) 28 (upd (hi (sI h2 28 _) 28) t (iZ (lv t)))) = _
        rw [sI_sI, hi_sI, if_pos rfl]
        congr 2
        funext c
        show (if c = t then iZ (lv t) else (if c < t then iZ (lv c) else hi h2 28 c)) = _
        by_cases z : c = t
        · rw [if_pos z, if_pos (by omega), z]
        · rw [if_neg z]
          by_cases z2 : c < t
          · rw [if_pos z2, if_pos (by omega)]
          · rw [if_neg z2, if_neg (by omega)]
      rw [e88_13]
      simp (disch := first | assumption | omega) only [e88_0, e88_1, e88_2, e88_5, e88_6, e88_7, e88_10, e88_11, e88_15, e88_16, e88_19, e88_22, e88_23, e88_26, e88_28, e88_29, e88_30, e88_32, e88_33, e88_36, e88_37, e88_38, e88_39, e88_41, e88_42, e88_45, e88_46, e88_47, e88_49, e88_50, e88_52, e88_53, e88_56, e88_57, e88_58, e88_60, e88_61, e88_63, e88_64, e88_67, e88_68, e88_69, e88_71, e88_72, e88_73, e88_76, e88_79, m88, ↓reduceIte, qg_0, qg_1, qg_2, qg_3, qg_4, qg_5, qg_6, qg_7, qg_8, qg_9, qg_10, qg_11, qg_12, qg_13, not_true_eq_false, not_false_eq_true, Nat.reduceBEq, Bool.false_eq_true, ex1, ex3, ex4, exF, qfit_i, qfit_l, qfit_r, qfit_n, qfit_b0, qfit_b1, qcat_i, qcat_r, qcat_n, qcat_l, qroom_0, qroom_c, List.map_cons, List.map_nil, List.sum_cons, List.sum_nil, Nat.reduceAdd, Nat.reduceMul, Nat.reduceLT, Nat.reduceLeDiff, Nat.reduceEqDiff, Nat.reduceSub, decide_true, true_and, and_true, and_self, if_true, if_false, Option.toList_some, Option.toList_none, List.cons_append, List.nil_append, qsL, qlong, List.length_cons, List.length_nil, iN_L, exI, iN_add, iN_mul, iN_le, iN_lt, iN_eq, Nat.le_refl, qfN0, qfN1, uX_16, vX_16, uX_19, vX_19, uX_27, vX_27, uX_30, vX_30, uX_39, vX_39, uX_41, vX_41, uX_43, vX_43, uX_46, vX_46, uX_50, vX_50, uX_53, vX_53, uX_27, vX_27, u16, ult, uF, g0, g1, g2, g3, g4, g5, g6, show ¬ (cnr bs i).length ≤ t by omega, gX_27_1, t0, t1, t2, t3, ev, wt]
    · try dsimp only
      have st := (cH (cnr bs i).length).sh
      obtain ⟨p', q', w', e', B', S', P'⟩ := (X.ch s (cH (cnr bs i).length) (by decide) (by decide) (by decide)).at hi'
      obtain ⟨⟨u16, ult, uF⟩, g0, g1, g2, g3, g4, g5, g6⟩ := S'.obj
      rw [e88_13]
      simp (disch := first | assumption | omega) only [e88_0, e88_1, e88_2, e88_5, e88_6, e88_7, e88_10, e88_11, e88_15, e88_16, e88_19, e88_22, e88_23, e88_26, e88_28, e88_29, e88_30, e88_32, e88_33, e88_36, e88_37, e88_38, e88_39, e88_41, e88_42, e88_45, e88_46, e88_47, e88_49, e88_50, e88_52, e88_53, e88_56, e88_57, e88_58, e88_60, e88_61, e88_63, e88_64, e88_67, e88_68, e88_69, e88_71, e88_72, e88_73, e88_76, e88_79, m88, ↓reduceIte, qg_0, qg_1, qg_2, qg_3, qg_4, qg_5, qg_6, qg_7, qg_8, qg_9, qg_10, qg_11, qg_12, qg_13, not_true_eq_false, not_false_eq_true, Nat.reduceBEq, Bool.false_eq_true, ex1, ex3, ex4, exF, qfit_i, qfit_l, qfit_r, qfit_n, qfit_b0, qfit_b1, qcat_i, qcat_r, qcat_n, qcat_l, qroom_0, qroom_c, List.map_cons, List.map_nil, List.sum_cons, List.sum_nil, Nat.reduceAdd, Nat.reduceMul, Nat.reduceLT, Nat.reduceLeDiff, Nat.reduceEqDiff, Nat.reduceSub, decide_true, true_and, and_true, and_self, if_true, if_false, Option.toList_some, Option.toList_none, List.cons_append, List.nil_append, qsL, qlong, List.length_cons, List.length_nil, iN_L, exI, iN_add, iN_mul, iN_le, iN_lt, iN_eq, Nat.le_refl, qfN0, qfN1, uX_16, vX_16, uX_19, vX_19, uX_27, vX_27, uX_30, vX_30, uX_39, vX_39, uX_41, vX_41, uX_43, vX_43, uX_46, vX_46, uX_50, vX_50, uX_53, vX_53, u16, ult, uF, g0, g1, g2, g3, g4, g5, g6]
  · rw [eH]
    show hf (sI h2 28 _) 27 0 = _
    rw [hf_sI k28, e2, hf_xV, if_neg (by decide), e1, hf_xV, if_pos ⟨rfl, rfl⟩]
  · rw [eH]
    unfold xi
    show vI (hf (sI h2 28 _) 27 2) = _
    rw [hf_sI k28, e2, hf_xV, if_pos ⟨rfl, rfl⟩]; rfl
  · rw [eH]
    show hi (sI h2 28 _) 28 c = _
    rw [hi_sI, if_pos rfl, if_pos hc]
set_option maxRecDepth 100000 in
set_option maxHeartbeats 16000000 in
theorem x_aimLayer {i k : Nat} {y : Int32} (s : ShX h) (X : BsX h bs sa) (hi' : i < bs.length) (hk : k < dmn bs i) (ry : rgn 999 y) : ∃ h', (∀ R, qMC (d + 2) 89 [.ref 27, .ref (sa i), .int (iN k), .int y] h R ↔ R = (none, h')) ∧ ChX [28] secJ 0 h h' ∧ SeX h' bs sa i (slcV k y.toInt (cnr bs i)) k := by
  obtain ⟨p, q, w, e, B, S, P⟩ := X.at hi'
  have n16 := P.2.1.2
  have hD := P.1
  obtain ⟨lv, elv⟩ : ∃ lv, lv = slcV k y.toInt (cnr bs i) := ⟨_, rfl⟩
  have lb : ∀ c, c < (cnr bs i).length → -50000 ≤ lv c ∧ lv c ≤ 50000 := fun c hc => by
    have := P.2.2.1 c hc k (by omega)
    unfold rgn at ry
    rw [elv]
    unfold slcV
    omega
  rw [← elv]
  obtain ⟨h1, e1⟩ : ∃ h1, h1 = xV h 27 0 (.ref (sa i)) := ⟨_, rfl⟩
  have c1 : ChX [28] secJ 0 h h1 := by rw [e1]; exact ChX.setR s (by decide) (by decide)
  have s1 := c1.sh
  have p1 : qput h 27 7 0 (.ref (sa i)) = some h1 := by rw [e1]; exact pX_27_0 s
  obtain ⟨h2, e2⟩ : ∃ h2, h2 = xV h1 27 2 (.int (iN k)) := ⟨_, rfl⟩
  have c2 : ChX [28] secJ 0 h h2 := c1.trans0 (by rw [e2]; exact ChX.setI s1 (by decide) (by decide))
  have s2 := c2.sh
  have p2 : qput h1 27 7 2 (.int (iN k)) = some h2 := by rw [e2]; exact pX_27_2 s1
  have k28 := kX_28 s2
  obtain ⟨H, eH⟩ : ∃ H : Nat → qH, H = fun t => sI h2 28 (fun c => if c < t then iZ (lv c) else hi h2 28 c) := ⟨_, rfl⟩
  have cH : ∀ t, ChX [28] secJ 0 h (H t) := fun t => by rw [eH]; exact c2.trans0 (ChX.rowI s2 k28 (by decide) (by decide))
  have H0 : h2 = H 0 := by
    rw [eH]
    have : (fun c => if c < 0 then iZ (lv c) else hi h2 28 c) = hi h2 28 := by funext c; rw [if_neg (Nat.not_lt_zero c)]
    show h2 = sI h2 28 (fun c => if c < 0 then iZ (lv c) else hi h2 28 c)
    rw [this, sI_id k28]
  refine ⟨H (cnr bs i).length, fun R => ?_, cH _, ?_, ?_, by omega, fun c hc => ⟨?_, lb c hc⟩⟩
  · have r0 : qMC (d + 2) 89 [.ref 27, .ref (sa i), .int (iN k), .int y] h R ↔ qEv (d + 1) 4 qk_89 13 [some (.ref 27), some (.ref (sa i)), some (.int (iN k)), some (.int y), some (.int (iN 0))] [] (H 0) R := by
      rw [← H0]
      simp (disch := first | assumption | omega) only [e89_0, e89_1, e89_2, e89_5, e89_6, e89_7, e89_10, e89_11, e89_15, e89_16, e89_19, e89_22, e89_23, e89_26, e89_28, e89_29, e89_31, e89_32, e89_35, e89_36, e89_37, e89_38, e89_41, e89_44, m89, ↓reduceIte, qg_0, qg_1, qg_2, qg_3, qg_4, qg_5, qg_6, qg_7, qg_8, qg_9, qg_10, qg_11, qg_12, qg_13, not_true_eq_false, not_false_eq_true, Nat.reduceBEq, Bool.false_eq_true, ex1, ex3, ex4, exF, qfit_i, qfit_l, qfit_r, qfit_n, qfit_b0, qfit_b1, qcat_i, qcat_r, qcat_n, qcat_l, qroom_0, qroom_c, List.map_cons, List.map_nil, List.sum_cons, List.sum_nil, Nat.reduceAdd, Nat.reduceMul, Nat.reduceLT, Nat.reduceLeDiff, Nat.reduceEqDiff, Nat.reduceSub, decide_true, true_and, and_true, and_self, if_true, if_false, Option.toList_some, Option.toList_none, List.cons_append, List.nil_append, qsL, qlong, List.length_cons, List.length_nil, iN_L, exI, iN_add, iN_mul, iN_le, iN_lt, iN_eq, Nat.le_refl, qfN0, qfN1, uX_16, vX_16, uX_19, vX_19, uX_27, vX_27, uX_30, vX_30, uX_39, vX_39, uX_41, vX_41, uX_43, vX_43, uX_46, vX_46, uX_50, vX_50, uX_53, vX_53, uX_27, vX_27, p1, p2]
    rw [r0]
    refine Iff.trans (loop_up (n := (cnr bs i).length) (L := fun t => [some (.ref 27), some (.ref (sa i)), some (.int (iN k)), some (.int y), some (.int (iN t))]) (H := H) ?_) ?_
    · intro t ht
      try dsimp only
      have st := (cH t).sh
      obtain ⟨p', q', w', e', B', S', P'⟩ := (X.ch s (cH t) (by decide) (by decide) (by decide)).at hi'
      obtain ⟨⟨u16, ult, uF⟩, g0, g1, g2, g3, g4, g5, g6⟩ := S'.obj
      have t0 : ∀ R, qMC (d + 1) 104 [.ref (sa i), .int (iN t), .int (iN k)] (H t) R ↔ R = (some (.int (iZ (lP (cnr bs i) t k))), H t) := fun R => x_at S' ht (by omega)
      have ev : iZ (lP (cnr bs i) t k) - y = iZ (lv t) := by
        rw [elv]
        unfold slcV
        rw [← iZ_sub, iZ_of]
      have wt : qiast (H t) 28 (iN t) (iZ (lv t)) = some (H (t + 1)) := by
        rw [wX_28 st (by omega), eH]
        show some (sI (sI h2 28 _) 28 (upd (hi (sI h2 28 _) 28) t (iZ (lv t)))) = _
        rw [sI_sI, hi_sI, if_pos rfl]
        congr 2
        funext c
        show (if c = t then iZ (lv t) else (if c < t then iZ (lv c) else hi h2 28 c)) = _
        by_cases z : c = t
        · rw [if_pos z, if_pos (by omega), z]
        · rw [if_neg z]
          by_cases z2 : c < t
          · rw [if_pos z2, if_pos (by omega)]
          · rw [if_neg z2, if_neg (by omega)]
      rw [e89_13]
      simp (disch := first | assumption | omega) only [e89_0, e89_1, e89_2, e89_5, e89_6, e89_7, e89_10, e89_11, e89_15, e89_16, e89_19, e89_22, e89_23, e89_26, e89_28, e89_29, e89_31, e89_32, e89_35, e89_36, e89_37, e89_38, e89_41, e89_44, m89, ↓reduceIte, qg_0, qg_1, qg_2, qg_3, qg_4, qg_5, qg_6, qg_7, qg_8, qg_9, qg_10, qg_11, qg_12, qg_13, not_true_eq_false, not_false_eq_true, Nat.reduceBEq, Bool.false_eq_true, ex1, ex3, ex4, exF, qfit_i, qfit_l, qfit_r, qfit_n, qfit_b0, qfit_b1, qcat_i, qcat_r, qcat_n, qcat_l, qroom_0, qroom_c, List.map_cons, List.map_nil, List.sum_cons, List.sum_nil, Nat.reduceAdd, Nat.reduceMul, Nat.reduceLT, Nat.reduceLeDiff, Nat.reduceEqDiff, Nat.reduceSub, decide_true, true_and, and_true, and_self, if_true, if_false, Option.toList_some, Option.toList_none, List.cons_append, List.nil_append, qsL, qlong, List.length_cons, List.length_nil, iN_L, exI, iN_add, iN_mul, iN_le, iN_lt, iN_eq, Nat.le_refl, qfN0, qfN1, uX_16, vX_16, uX_19, vX_19, uX_27, vX_27, uX_30, vX_30, uX_39, vX_39, uX_41, vX_41, uX_43, vX_43, uX_46, vX_46, uX_50, vX_50, uX_53, vX_53, uX_27, vX_27, u16, ult, uF, g0, g1, g2, g3, g4, g5, g6, show ¬ (cnr bs i).length ≤ t by omega, gX_27_1, t0, ev, wt]
    · try dsimp only
      have st := (cH (cnr bs i).length).sh
      obtain ⟨p', q', w', e', B', S', P'⟩ := (X.ch s (cH (cnr bs i).length) (by decide) (by decide) (by decide)).at hi'
      obtain ⟨⟨u16, ult, uF⟩, g0, g1, g2, g3, g4, g5, g6⟩ := S'.obj
      rw [e89_13]
      simp (disch := first | assumption | omega) only [e89_0, e89_1, e89_2, e89_5, e89_6, e89_7, e89_10, e89_11, e89_15, e89_16, e89_19, e89_22, e89_23, e89_26, e89_28, e89_29, e89_31, e89_32, e89_35, e89_36, e89_37, e89_38, e89_41, e89_44, m89, ↓reduceIte, qg_0, qg_1, qg_2, qg_3, qg_4, qg_5, qg_6, qg_7, qg_8, qg_9, qg_10, qg_11, qg_12, qg_13, not_true_eq_false, not_false_eq_true, Nat.reduceBEq, Bool.false_eq_true, ex1, ex3, ex4, exF, qfit_i, qfit_l, qfit_r, qfit_n, qfit_b0, qfit_b1, qcat_i, qcat_r, qcat_n, qcat_l, qroom_0, qroom_c, List.map_cons, List.map_nil, List.sum_cons, List.sum_nil, Nat.reduceAdd, Nat.reduceMul, Nat.reduceLT, Nat.reduceLeDiff, Nat.reduceEqDiff, Nat.reduceSub, decide_true, true_and, and_true, and_self, if_true, if_false, Option.toList_some, Option.toList_none, List.cons_append, List.nil_append, qsL, qlong, List.length_cons, List.length_nil, iN_L, exI, iN_add, iN_mul, iN_le, iN_lt, iN_eq, Nat.le_refl, qfN0, qfN1, uX_16, vX_16, uX_19, vX_19, uX_27, vX_27, uX_30, vX_30, uX_39, vX_39, uX_41, vX_41, uX_43, vX_43, uX_46, vX_46, uX_50, vX_50, uX_53, vX_53, u16, ult, uF, g0, g1, g2, g3, g4, g5, g6]
  · rw [eH]
    show hf (sI h2 28 _) 27 0 = _
    rw [hf_sI k28, e2, hf_xV, if_neg (by decide), e1, hf_xV, if_pos ⟨rfl, rfl⟩]
  · rw [eH]
    unfold xi
    show vI (hf (sI h2 28 _) 27 2) = _
    rw [hf_sI k28, e2, hf_xV, if_pos ⟨rfl, rfl⟩, if_neg (by omega)]; rfl
  · rw [eH]
    show hi (sI h2 28 _) 28 c = _
    rw [hi_sI, if_pos rfl, if_pos hc]
/-- what a cut keeps, what a slice keeps -/
def kpW (lv : Nat → Int) (w c : Nat) : Bool := if w = 4 then decide (lv c ≤ 0) else decide (lv c = 0)
set_option maxRecDepth 100000 in
theorem x_isKept {i w c : Nat} {lv : Nat → Int} (s : ShX h) (v : SeX h bs sa i lv w) (n16 : (cnr bs i).length ≤ 16) (hc : c < (cnr bs i).length) : qMC (d + 1) 91 [.ref 27, .int (iN c)] h R ↔ R = (some (.int (bB (kpW lv w c))), h) := by
  have v2 := v.2.1
  have lr := v.lvl s n16 hc
  obtain ⟨l0, l1, l2, l3, l4⟩ := lv_0 (v.2.2.2 c hc).2
  have ne : ∀ w, w < 4 → ¬ iN w = -iN 1 := fun w hw z => by
    have : iN w < iN 0 := by rw [z]; decide
    rw [iN_lt (by omega) (by omega)] at this; omega
  unfold kpW
  by_cases z : w = 4
  · rw [if_pos z] at v2 ⊢
    by_cases y : lv c ≤ 0
    · rw [decide_eq_true y, bN_t]
      simp (disch := first | assumption | omega) only [e91_0, e91_1, e91_4, e91_5, e91_8, e91_9, e91_12, e91_13, e91_14, e91_17, e91_18, e91_21, e91_22, e91_25, e91_26, e91_29, e91_30, e91_31, e91_34, e91_35, e91_38, e91_39, m91, ↓reduceIte, qg_0, qg_1, qg_2, qg_3, qg_4, qg_5, qg_6, qg_7, qg_8, qg_9, qg_10, qg_11, qg_12, qg_13, not_true_eq_false, not_false_eq_true, Nat.reduceBEq, Bool.false_eq_true, ex1, ex3, ex4, exF, qfit_i, qfit_l, qfit_r, qfit_n, qfit_b0, qfit_b1, qcat_i, qcat_r, qcat_n, qcat_l, qroom_0, qroom_c, List.map_cons, List.map_nil, List.sum_cons, List.sum_nil, Nat.reduceAdd, Nat.reduceMul, Nat.reduceLT, Nat.reduceLeDiff, Nat.reduceEqDiff, Nat.reduceSub, decide_true, true_and, and_true, and_self, if_true, if_false, Option.toList_some, Option.toList_none, List.cons_append, List.nil_append, qsL, qlong, List.length_cons, List.length_nil, iN_L, exI, iN_add, iN_mul, iN_le, iN_lt, iN_eq, Nat.le_refl, qfN0, qfN1, uX_16, vX_16, uX_19, vX_19, uX_27, vX_27, uX_30, vX_30, uX_39, vX_39, uX_41, vX_41, uX_43, vX_43, uX_46, vX_46, uX_50, vX_50, uX_53, vX_53, uX_27, vX_27, gX_27_1, gX_27_2, v2, lr, l1, show ¬ 0 < lv c by omega]
    · rw [decide_eq_false y, bN_f]
      simp (disch := first | assumption | omega) only [e91_0, e91_1, e91_4, e91_5, e91_8, e91_9, e91_12, e91_13, e91_14, e91_17, e91_18, e91_21, e91_22, e91_25, e91_26, e91_29, e91_30, e91_31, e91_34, e91_35, e91_38, e91_39, m91, ↓reduceIte, qg_0, qg_1, qg_2, qg_3, qg_4, qg_5, qg_6, qg_7, qg_8, qg_9, qg_10, qg_11, qg_12, qg_13, not_true_eq_false, not_false_eq_true, Nat.reduceBEq, Bool.false_eq_true, ex1, ex3, ex4, exF, qfit_i, qfit_l, qfit_r, qfit_n, qfit_b0, qfit_b1, qcat_i, qcat_r, qcat_n, qcat_l, qroom_0, qroom_c, List.map_cons, List.map_nil, List.sum_cons, List.sum_nil, Nat.reduceAdd, Nat.reduceMul, Nat.reduceLT, Nat.reduceLeDiff, Nat.reduceEqDiff, Nat.reduceSub, decide_true, true_and, and_true, and_self, if_true, if_false, Option.toList_some, Option.toList_none, List.cons_append, List.nil_append, qsL, qlong, List.length_cons, List.length_nil, iN_L, exI, iN_add, iN_mul, iN_le, iN_lt, iN_eq, Nat.le_refl, qfN0, qfN1, uX_16, vX_16, uX_19, vX_19, uX_27, vX_27, uX_30, vX_30, uX_39, vX_39, uX_41, vX_41, uX_43, vX_43, uX_46, vX_46, uX_50, vX_50, uX_53, vX_53, uX_27, vX_27, gX_27_1, gX_27_2, v2, lr, l1, show 0 < lv c by omega]
  · rw [if_neg z] at v2 ⊢
    have nw := ne w (by have := v.2.2.1; omega)
    by_cases y : lv c = 0
    · rw [decide_eq_true y, bN_t]
      simp (disch := first | assumption | omega) only [e91_0, e91_1, e91_4, e91_5, e91_8, e91_9, e91_12, e91_13, e91_14, e91_17, e91_18, e91_21, e91_22, e91_25, e91_26, e91_29, e91_30, e91_31, e91_34, e91_35, e91_38, e91_39, m91, ↓reduceIte, qg_0, qg_1, qg_2, qg_3, qg_4, qg_5, qg_6, qg_7, qg_8, qg_9, qg_10, qg_11, qg_12, qg_13, not_true_eq_false, not_false_eq_true, Nat.reduceBEq, Bool.false_eq_true, ex1, ex3, ex4, exF, qfit_i, qfit_l, qfit_r, qfit_n, qfit_b0, qfit_b1, qcat_i, qcat_r, qcat_n, qcat_l, qroom_0, qroom_c, List.map_cons, List.map_nil, List.sum_cons, List.sum_nil, Nat.reduceAdd, Nat.reduceMul, Nat.reduceLT, Nat.reduceLeDiff, Nat.reduceEqDiff, Nat.reduceSub, decide_true, true_and, and_true, and_self, if_true, if_false, Option.toList_some, Option.toList_none, List.cons_append, List.nil_append, qsL, qlong, List.length_cons, List.length_nil, iN_L, exI, iN_add, iN_mul, iN_le, iN_lt, iN_eq, Nat.le_refl, qfN0, qfN1, uX_16, vX_16, uX_19, vX_19, uX_27, vX_27, uX_30, vX_30, uX_39, vX_39, uX_41, vX_41, uX_43, vX_43, uX_46, vX_46, uX_50, vX_50, uX_53, vX_53, uX_27, vX_27, gX_27_1, gX_27_2, v2, nw, lr, eq_true (l2.mpr y)]
    · rw [decide_eq_false y, bN_f]
      simp (disch := first | assumption | omega) only [e91_0, e91_1, e91_4, e91_5, e91_8, e91_9, e91_12, e91_13, e91_14, e91_17, e91_18, e91_21, e91_22, e91_25, e91_26, e91_29, e91_30, e91_31, e91_34, e91_35, e91_38, e91_39, m91, ↓reduceIte, qg_0, qg_1, qg_2, qg_3, qg_4, qg_5, qg_6, qg_7, qg_8, qg_9, qg_10, qg_11, qg_12, qg_13, not_true_eq_false, not_false_eq_true, Nat.reduceBEq, Bool.false_eq_true, ex1, ex3, ex4, exF, qfit_i, qfit_l, qfit_r, qfit_n, qfit_b0, qfit_b1, qcat_i, qcat_r, qcat_n, qcat_l, qroom_0, qroom_c, List.map_cons, List.map_nil, List.sum_cons, List.sum_nil, Nat.reduceAdd, Nat.reduceMul, Nat.reduceLT, Nat.reduceLeDiff, Nat.reduceEqDiff, Nat.reduceSub, decide_true, true_and, and_true, and_self, if_true, if_false, Option.toList_some, Option.toList_none, List.cons_append, List.nil_append, qsL, qlong, List.length_cons, List.length_nil, iN_L, exI, iN_add, iN_mul, iN_le, iN_lt, iN_eq, Nat.le_refl, qfN0, qfN1, uX_16, vX_16, uX_19, vX_19, uX_27, vX_27, uX_30, vX_30, uX_39, vX_39, uX_41, vX_41, uX_43, vX_43, uX_46, vX_46, uX_50, vX_50, uX_53, vX_53, uX_27, vX_27, gX_27_1, gX_27_2, v2, nw, lr, eq_false (fun z => y (l2.mp z))]
theorem lo_pair {a c : Nat} (hac : a < c) (hc : c < 16) : lo1 (2 ^ a ||| 2 ^ c) = a ∧ lo2 (2 ^ a ||| 2 ^ c) = c := by
  have e : pickN (fun k => (2 ^ a ||| 2 ^ c).testBit k) 24 = [a, c] := srtL_ext (pickN_srt _ _) (by simp; exact hac) fun x => by
    rw [pickN_mem, pair_bit]
    simp only [List.mem_cons, List.not_mem_nil, or_false]
    omega
  unfold lo1 lo2
  rw [e]
  exact ⟨rfl, rfl⟩
/-- an edge's ends -/
theorem x_ends {a c : Nat} (hac : a < c) (hc : c < 16) (h' : qH) : (∀ R, qMC (d + 2) 178 [.int (iN (2 ^ a ||| 2 ^ c))] h' R ↔ R = (some (.int (iN a)), h')) ∧ (∀ R, qMC (d + 2) 178 [.int (iN (2 ^ c))] h' R ↔ R = (some (.int (iN c)), h')) ∧ iN (2 ^ a ||| 2 ^ c) &&& (iN (2 ^ a ||| 2 ^ c) - iN 1) = iN (2 ^ c) := by
  have y16 : 2 ^ a ||| 2 ^ c < 65536 := Nat.or_lt_two_pow (n := 16) (Nat.pow_lt_pow_right (by decide) (by omega)) (Nat.pow_lt_pow_right (by decide) (by omega))
  have z16 : 2 ^ c < 65536 := show 2 ^ c < 2 ^ 16 from Nat.pow_lt_pow_right (by decide) (by omega)
  have lo : ∀ j, j < a → (2 ^ a ||| 2 ^ c).testBit j = false := fun j hj => by
    cases q' : (2 ^ a ||| 2 ^ c).testBit j with
    | false => rfl
    | true => have := pair_bit.mp q'; omega
  have p0 : 0 < 2 ^ a ||| 2 ^ c := Nat.lt_of_lt_of_le (Nat.two_pow_pos a) Nat.left_le_or
  refine ⟨fun R => x_leastOf y16 (pair_bit.mpr (Or.inl rfl)) lo, fun R => x_leastOf z16 (by rw [Nat.testBit_two_pow]; exact decide_eq_true rfl) fun j hj => by rw [Nat.testBit_two_pow]; exact decide_eq_false (by omega), ?_⟩
  rw [iN_sub (by omega), iN_and, drop_is y16 (pair_bit.mpr (Or.inl rfl)) lo]
  congr 1
  exact Nat.eq_of_testBit_eq fun u => by
    rw [wo_bit, Bool.eq_iff_iff, Bool.and_eq_true, pair_bit, Nat.testBit_two_pow, Nat.testBit_two_pow, decide_eq_true_eq, Bool.not_eq_true', decide_eq_false_iff_not]
    omega
set_option maxRecDepth 100000 in
set_option maxHeartbeats 16000000 in
theorem x_isCrossed {i w a c : Nat} {lv : Nat → Int} (s : ShX h) (v : SeX h bs sa i lv w) (n16 : (cnr bs i).length ≤ 16) (hac : a < c) (hc : c < (cnr bs i).length) : qMC (d + 3) 92 [.ref 27, .int (iN (2 ^ a ||| 2 ^ c))] h R ↔ R = (some (.int (bB (tB (crs lv (2 ^ a ||| 2 ^ c))))), h) := by
  obtain ⟨n1, n2, n3⟩ := x_ends (d := d) hac (show c < 16 by omega) h
  obtain ⟨o1, o2⟩ := lo_pair hac (show c < 16 by omega)
  have la := v.lvl s n16 (show a < (cnr bs i).length by omega)
  have lc := v.lvl s n16 hc
  obtain ⟨p0, p1, p2, p3, p4⟩ := lv_0 (v.2.2.2 a (by omega)).2
  obtain ⟨q0, q1, q2, q3, q4⟩ := lv_0 (v.2.2.2 c hc).2
  have e : crs lv (2 ^ a ||| 2 ^ c) ↔ (lv a < 0 ∧ 0 < lv c) ∨ (0 < lv a ∧ lv c < 0) := by unfold crs; rw [o1, o2]
  by_cases z1 : lv a < 0
  · by_cases z2 : 0 < lv c
    · rw [tB_t (e.mpr (Or.inl ⟨z1, z2⟩)), bN_t]
      simp (disch := first | assumption | omega) only [e92_0, e92_1, e92_4, e92_5, e92_8, e92_9, e92_10, e92_11, e92_14, e92_15, e92_16, e92_17, e92_18, e92_19, e92_22, e92_23, e92_24, e92_25, e92_28, e92_29, e92_32, e92_33, e92_36, e92_37, e92_40, e92_41, e92_44, e92_45, m92, ↓reduceIte, qg_0, qg_1, qg_2, qg_3, qg_4, qg_5, qg_6, qg_7, qg_8, qg_9, qg_10, qg_11, qg_12, qg_13, not_true_eq_false, not_false_eq_true, Nat.reduceBEq, Bool.false_eq_true, ex1, ex3, ex4, exF, qfit_i, qfit_l, qfit_r, qfit_n, qfit_b0, qfit_b1, qcat_i, qcat_r, qcat_n, qcat_l, qroom_0, qroom_c, List.map_cons, List.map_nil, List.sum_cons, List.sum_nil, Nat.reduceAdd, Nat.reduceMul, Nat.reduceLT, Nat.reduceLeDiff, Nat.reduceEqDiff, Nat.reduceSub, decide_true, true_and, and_true, and_self, if_true, if_false, Option.toList_some, Option.toList_none, List.cons_append, List.nil_append, qsL, qlong, List.length_cons, List.length_nil, iN_L, exI, iN_add, iN_mul, iN_le, iN_lt, iN_eq, Nat.le_refl, qfN0, qfN1, uX_16, vX_16, uX_19, vX_19, uX_27, vX_27, uX_30, vX_30, uX_39, vX_39, uX_41, vX_41, uX_43, vX_43, uX_46, vX_46, uX_50, vX_50, uX_53, vX_53, uX_27, vX_27, gX_27_1, n1, n2, n3, la, lc, p4, show ¬ 0 ≤ lv a by omega, q1, z2]
    · rw [tB_f (fun z => by rcases e.mp z with z | z <;> omega), bN_f]
      simp (disch := first | assumption | omega) only [e92_0, e92_1, e92_4, e92_5, e92_8, e92_9, e92_10, e92_11, e92_14, e92_15, e92_16, e92_17, e92_18, e92_19, e92_22, e92_23, e92_24, e92_25, e92_28, e92_29, e92_32, e92_33, e92_36, e92_37, e92_40, e92_41, e92_44, e92_45, m92, ↓reduceIte, qg_0, qg_1, qg_2, qg_3, qg_4, qg_5, qg_6, qg_7, qg_8, qg_9, qg_10, qg_11, qg_12, qg_13, not_true_eq_false, not_false_eq_true, Nat.reduceBEq, Bool.false_eq_true, ex1, ex3, ex4, exF, qfit_i, qfit_l, qfit_r, qfit_n, qfit_b0, qfit_b1, qcat_i, qcat_r, qcat_n, qcat_l, qroom_0, qroom_c, List.map_cons, List.map_nil, List.sum_cons, List.sum_nil, Nat.reduceAdd, Nat.reduceMul, Nat.reduceLT, Nat.reduceLeDiff, Nat.reduceEqDiff, Nat.reduceSub, decide_true, true_and, and_true, and_self, if_true, if_false, Option.toList_some, Option.toList_none, List.cons_append, List.nil_append, qsL, qlong, List.length_cons, List.length_nil, iN_L, exI, iN_add, iN_mul, iN_le, iN_lt, iN_eq, Nat.le_refl, qfN0, qfN1, uX_16, vX_16, uX_19, vX_19, uX_27, vX_27, uX_30, vX_30, uX_39, vX_39, uX_41, vX_41, uX_43, vX_43, uX_46, vX_46, uX_50, vX_50, uX_53, vX_53, uX_27, vX_27, gX_27_1, n1, n2, n3, la, lc, p4, show ¬ 0 ≤ lv a by omega, q1, z2, p3, show lv a ≤ 0 by omega]
  · by_cases z2 : 0 < lv a
    · by_cases z3 : lv c < 0
      · rw [tB_t (e.mpr (Or.inr ⟨z2, z3⟩)), bN_t]
        simp (disch := first | assumption | omega) only [e92_0, e92_1, e92_4, e92_5, e92_8, e92_9, e92_10, e92_11, e92_14, e92_15, e92_16, e92_17, e92_18, e92_19, e92_22, e92_23, e92_24, e92_25, e92_28, e92_29, e92_32, e92_33, e92_36, e92_37, e92_40, e92_41, e92_44, e92_45, m92, ↓reduceIte, qg_0, qg_1, qg_2, qg_3, qg_4, qg_5, qg_6, qg_7, qg_8, qg_9, qg_10, qg_11, qg_12, qg_13, not_true_eq_false, not_false_eq_true, Nat.reduceBEq, Bool.false_eq_true, ex1, ex3, ex4, exF, qfit_i, qfit_l, qfit_r, qfit_n, qfit_b0, qfit_b1, qcat_i, qcat_r, qcat_n, qcat_l, qroom_0, qroom_c, List.map_cons, List.map_nil, List.sum_cons, List.sum_nil, Nat.reduceAdd, Nat.reduceMul, Nat.reduceLT, Nat.reduceLeDiff, Nat.reduceEqDiff, Nat.reduceSub, decide_true, true_and, and_true, and_self, if_true, if_false, Option.toList_some, Option.toList_none, List.cons_append, List.nil_append, qsL, qlong, List.length_cons, List.length_nil, iN_L, exI, iN_add, iN_mul, iN_le, iN_lt, iN_eq, Nat.le_refl, qfN0, qfN1, uX_16, vX_16, uX_19, vX_19, uX_27, vX_27, uX_30, vX_30, uX_39, vX_39, uX_41, vX_41, uX_43, vX_43, uX_46, vX_46, uX_50, vX_50, uX_53, vX_53, uX_27, vX_27, gX_27_1, n1, n2, n3, la, lc, p4, show 0 ≤ lv a by omega, p3, show ¬ lv a ≤ 0 by omega, q4, show ¬ 0 ≤ lv c by omega]
      · rw [tB_f (fun z => by rcases e.mp z with z | z <;> omega), bN_f]
        simp (disch := first | assumption | omega) only [e92_0, e92_1, e92_4, e92_5, e92_8, e92_9, e92_10, e92_11, e92_14, e92_15, e92_16, e92_17, e92_18, e92_19, e92_22, e92_23, e92_24, e92_25, e92_28, e92_29, e92_32, e92_33, e92_36, e92_37, e92_40, e92_41, e92_44, e92_45, m92, ↓reduceIte, qg_0, qg_1, qg_2, qg_3, qg_4, qg_5, qg_6, qg_7, qg_8, qg_9, qg_10, qg_11, qg_12, qg_13, not_true_eq_false, not_false_eq_true, Nat.reduceBEq, Bool.false_eq_true, ex1, ex3, ex4, exF, qfit_i, qfit_l, qfit_r, qfit_n, qfit_b0, qfit_b1, qcat_i, qcat_r, qcat_n, qcat_l, qroom_0, qroom_c, List.map_cons, List.map_nil, List.sum_cons, List.sum_nil, Nat.reduceAdd, Nat.reduceMul, Nat.reduceLT, Nat.reduceLeDiff, Nat.reduceEqDiff, Nat.reduceSub, decide_true, true_and, and_true, and_self, if_true, if_false, Option.toList_some, Option.toList_none, List.cons_append, List.nil_append, qsL, qlong, List.length_cons, List.length_nil, iN_L, exI, iN_add, iN_mul, iN_le, iN_lt, iN_eq, Nat.le_refl, qfN0, qfN1, uX_16, vX_16, uX_19, vX_19, uX_27, vX_27, uX_30, vX_30, uX_39, vX_39, uX_41, vX_41, uX_43, vX_43, uX_46, vX_46, uX_50, vX_50, uX_53, vX_53, uX_27, vX_27, gX_27_1, n1, n2, n3, la, lc, p4, show 0 ≤ lv a by omega, p3, show ¬ lv a ≤ 0 by omega, q4, show 0 ≤ lv c by omega]
    · rw [tB_f (fun z => by rcases e.mp z with z | z <;> omega), bN_f]
      simp (disch := first | assumption | omega) only [e92_0, e92_1, e92_4, e92_5, e92_8, e92_9, e92_10, e92_11, e92_14, e92_15, e92_16, e92_17, e92_18, e92_19, e92_22, e92_23, e92_24, e92_25, e92_28, e92_29, e92_32, e92_33, e92_36, e92_37, e92_40, e92_41, e92_44, e92_45, m92, ↓reduceIte, qg_0, qg_1, qg_2, qg_3, qg_4, qg_5, qg_6, qg_7, qg_8, qg_9, qg_10, qg_11, qg_12, qg_13, not_true_eq_false, not_false_eq_true, Nat.reduceBEq, Bool.false_eq_true, ex1, ex3, ex4, exF, qfit_i, qfit_l, qfit_r, qfit_n, qfit_b0, qfit_b1, qcat_i, qcat_r, qcat_n, qcat_l, qroom_0, qroom_c, List.map_cons, List.map_nil, List.sum_cons, List.sum_nil, Nat.reduceAdd, Nat.reduceMul, Nat.reduceLT, Nat.reduceLeDiff, Nat.reduceEqDiff, Nat.reduceSub, decide_true, true_and, and_true, and_self, if_true, if_false, Option.toList_some, Option.toList_none, List.cons_append, List.nil_append, qsL, qlong, List.length_cons, List.length_nil, iN_L, exI, iN_add, iN_mul, iN_le, iN_lt, iN_eq, Nat.le_refl, qfN0, qfN1, uX_16, vX_16, uX_19, vX_19, uX_27, vX_27, uX_30, vX_30, uX_39, vX_39, uX_41, vX_41, uX_43, vX_43, uX_46, vX_46, uX_50, vX_50, uX_53, vX_53, uX_27, vX_27, gX_27_1, n1, n2, n3, la, lc, p4, show 0 ≤ lv a by omega, p3, show lv a ≤ 0 by omega]
set_option maxRecDepth 100000 in
set_option maxHeartbeats 16000000 in
theorem x_span {i w a c : Nat} {lv : Nat → Int} (s : ShX h) (v : SeX h bs sa i lv w) (n16 : (cnr bs i).length ≤ 16) (hac : a < c) (hc : c < (cnr bs i).length) : qMC (d + 3) 94 [.ref 27, .int (iN (2 ^ a ||| 2 ^ c))] h R ↔ R = (some (.long (lZ ((lv c - lv a).natAbs : Int))), h) := by
  obtain ⟨n1, n2, n3⟩ := x_ends (d := d) hac (show c < 16 by omega) h
  have la := v.lvl s n16 (show a < (cnr bs i).length by omega)
  have lc := v.lvl s n16 hc
  have ba := (v.2.2.2 a (by omega)).2
  have bc := (v.2.2.2 c hc).2
  have ab : ∀ R, qMC (d + 2) 310 [.int (iZ (lv a - lv c))] h R ↔ R = (some (.int (iN (lv a - lv c).natAbs)), h) := fun R => x_absI (by unfold iB; omega)
  have e1 : (iN (lv a - lv c).natAbs).toInt64 = lZ ((lv c - lv a).natAbs : Int) := by
    rw [show (lv a - lv c).natAbs = (lv c - lv a).natAbs by omega, ← iZ_nat]
    exact iZ_long (by unfold iB; omega)
  simp (disch := first | assumption | omega) only [e94_0, e94_1, e94_4, e94_5, e94_8, e94_9, e94_10, e94_13, e94_14, e94_15, e94_16, e94_17, e94_18, e94_21, e94_22, e94_23, e94_26, e94_27, m94, ↓reduceIte, qg_0, qg_1, qg_2, qg_3, qg_4, qg_5, qg_6, qg_7, qg_8, qg_9, qg_10, qg_11, qg_12, qg_13, not_true_eq_false, not_false_eq_true, Nat.reduceBEq, Bool.false_eq_true, ex1, ex3, ex4, exF, qfit_i, qfit_l, qfit_r, qfit_n, qfit_b0, qfit_b1, qcat_i, qcat_r, qcat_n, qcat_l, qroom_0, qroom_c, List.map_cons, List.map_nil, List.sum_cons, List.sum_nil, Nat.reduceAdd, Nat.reduceMul, Nat.reduceLT, Nat.reduceLeDiff, Nat.reduceEqDiff, Nat.reduceSub, decide_true, true_and, and_true, and_self, if_true, if_false, Option.toList_some, Option.toList_none, List.cons_append, List.nil_append, qsL, qlong, List.length_cons, List.length_nil, iN_L, exI, iN_add, iN_mul, iN_le, iN_lt, iN_eq, Nat.le_refl, qfN0, qfN1, uX_16, vX_16, uX_19, vX_19, uX_27, vX_27, uX_30, vX_30, uX_39, vX_39, uX_41, vX_41, uX_43, vX_43, uX_46, vX_46, uX_50, vX_50, uX_53, vX_53, uX_27, vX_27, gX_27_1, n1, n2, n3, la, lc, iZ_sub, ab, e1]
set_option maxRecDepth 100000 in
set_option maxHeartbeats 16000000 in
theorem x_crossing {i w a c k : Nat} {lv : Nat → Int} (s : ShX h) (X : BsX h bs sa) (hi' : i < bs.length) (v : SeX h bs sa i lv w) (hac : a < c) (hc : c < (cnr bs i).length) (hk : k < 4) (cr : crs lv (2 ^ a ||| 2 ^ c)) : qMC (d + 3) 95 [.ref 27, .int (iN (2 ^ a ||| 2 ^ c)), .int (iN k)] h R ↔ R = (some (.long (lZ (co (btw ((cnr bs i).getD a z4) ((cnr bs i).getD c z4) (lv a) (lv c)).1 k))), h) := by
  obtain ⟨p, q, w', e, B, S, P⟩ := X.at hi'
  obtain ⟨⟨u16, ult, uF⟩, g0, g1, g2, g3, g4, g5, g6⟩ := S.obj
  have n16 := P.2.1.2
  obtain ⟨n1, n2, n3⟩ := x_ends (d := d) hac (show c < 16 by omega) h
  obtain ⟨o1, o2⟩ := lo_pair hac (show c < 16 by omega)
  have la := v.lvl s n16 (show a < (cnr bs i).length by omega)
  have lc := v.lvl s n16 hc
  have ba := (v.2.2.2 a (by omega)).2
  have bc := (v.2.2.2 c hc).2
  obtain ⟨p0, p1, p2, p3, p4⟩ := lv_0 ba
  have ta : ∀ R, qMC (d + 2) 104 [.ref (sa i), .int (iN a), .int (iN k)] h R ↔ R = (some (.int (iZ (lP (cnr bs i) a k))), h) := fun R => x_at S (by omega) hk
  have tc : ∀ R, qMC (d + 2) 104 [.ref (sa i), .int (iN c), .int (iN k)] h R ↔ R = (some (.int (iZ (lP (cnr bs i) c k))), h) := fun R => x_at S hc hk
  have xa := P.2.2.1 a (by omega) k hk
  have xc := P.2.2.1 c hc k hk
  have l1 := iZ_long (z := lP (cnr bs i) a k) (by unfold iB; omega)
  have l2 := iZ_long (z := lP (cnr bs i) c k) (by unfold iB; omega)
  have l3 := iZ_long (lv_B ba)
  have l4 := iZ_long (lv_B bc)
  have ev : co (btw ((cnr bs i).getD a z4) ((cnr bs i).getD c z4) (lv a) (lv c)).1 k = if 0 < lv c - lv a then lP (cnr bs i) a k * lv c - lP (cnr bs i) c k * lv a else lP (cnr bs i) c k * lv a - lP (cnr bs i) a k * lv c := by
    match k, hk with
    | 0, _ => rfl
    | 1, _ => rfl
    | 2, _ => rfl
    | 3, _ => rfl
  have fr := v.from s
  have cr' : (lv a < 0 ∧ 0 < lv c) ∨ (0 < lv a ∧ lv c < 0) := by unfold crs at cr; rw [o1, o2] at cr; exact cr
  rw [ev]
  rcases cr' with ⟨z1, z2⟩ | ⟨z1, z2⟩
  · rw [if_pos (by omega)]
    simp (disch := first | assumption | omega) only [e95_0, e95_1, e95_4, e95_5, e95_6, e95_7, e95_8, e95_9, e95_10, e95_13, e95_15, e95_16, e95_19, e95_20, e95_21, e95_24, e95_25, e95_27, e95_29, e95_30, e95_32, e95_34, e95_35, e95_38, e95_39, e95_40, e95_43, e95_44, e95_45, e95_48, e95_50, e95_51, e95_52, e95_53, e95_54, e95_57, e95_59, e95_60, e95_63, e95_64, e95_65, e95_68, e95_69, e95_70, e95_71, e95_72, e95_73, m95, ↓reduceIte, qg_0, qg_1, qg_2, qg_3, qg_4, qg_5, qg_6, qg_7, qg_8, qg_9, qg_10, qg_11, qg_12, qg_13, not_true_eq_false, not_false_eq_true, Nat.reduceBEq, Bool.false_eq_true, ex1, ex3, ex4, exF, qfit_i, qfit_l, qfit_r, qfit_n, qfit_b0, qfit_b1, qcat_i, qcat_r, qcat_n, qcat_l, qroom_0, qroom_c, List.map_cons, List.map_nil, List.sum_cons, List.sum_nil, Nat.reduceAdd, Nat.reduceMul, Nat.reduceLT, Nat.reduceLeDiff, Nat.reduceEqDiff, Nat.reduceSub, decide_true, true_and, and_true, and_self, if_true, if_false, Option.toList_some, Option.toList_none, List.cons_append, List.nil_append, qsL, qlong, List.length_cons, List.length_nil, iN_L, exI, iN_add, iN_mul, iN_le, iN_lt, iN_eq, Nat.le_refl, qfN0, qfN1, uX_16, vX_16, uX_19, vX_19, uX_27, vX_27, uX_30, vX_30, uX_39, vX_39, uX_41, vX_41, uX_43, vX_43, uX_46, vX_46, uX_50, vX_50, uX_53, vX_53, uX_27, vX_27, gX_27_1, n1, n2, n3, la, lc, p3, show lv a ≤ 0 by omega, fr, ta, tc, u16, ult, uF, g0, g1, g2, g3, g4, g5, g6, l1, l2, l3, l4, lZ_mul, lZ_sub]
  · rw [if_neg (by omega)]
    simp (disch := first | assumption | omega) only [e95_0, e95_1, e95_4, e95_5, e95_6, e95_7, e95_8, e95_9, e95_10, e95_13, e95_15, e95_16, e95_19, e95_20, e95_21, e95_24, e95_25, e95_27, e95_29, e95_30, e95_32, e95_34, e95_35, e95_38, e95_39, e95_40, e95_43, e95_44, e95_45, e95_48, e95_50, e95_51, e95_52, e95_53, e95_54, e95_57, e95_59, e95_60, e95_63, e95_64, e95_65, e95_68, e95_69, e95_70, e95_71, e95_72, e95_73, m95, ↓reduceIte, qg_0, qg_1, qg_2, qg_3, qg_4, qg_5, qg_6, qg_7, qg_8, qg_9, qg_10, qg_11, qg_12, qg_13, not_true_eq_false, not_false_eq_true, Nat.reduceBEq, Bool.false_eq_true, ex1, ex3, ex4, exF, qfit_i, qfit_l, qfit_r, qfit_n, qfit_b0, qfit_b1, qcat_i, qcat_r, qcat_n, qcat_l, qroom_0, qroom_c, List.map_cons, List.map_nil, List.sum_cons, List.sum_nil, Nat.reduceAdd, Nat.reduceMul, Nat.reduceLT, Nat.reduceLeDiff, Nat.reduceEqDiff, Nat.reduceSub, decide_true, true_and, and_true, and_self, if_true, if_false, Option.toList_some, Option.toList_none, List.cons_append, List.nil_append, qsL, qlong, List.length_cons, List.length_nil, iN_L, exI, iN_add, iN_mul, iN_le, iN_lt, iN_eq, Nat.le_refl, qfN0, qfN1, uX_16, vX_16, uX_19, vX_19, uX_27, vX_27, uX_30, vX_30, uX_39, vX_39, uX_41, vX_41, uX_43, vX_43, uX_46, vX_46, uX_50, vX_50, uX_53, vX_53, uX_27, vX_27, gX_27_1, n1, n2, n3, la, lc, p3, show ¬ lv a ≤ 0 by omega, fr, ta, tc, u16, ult, uF, g0, g1, g2, g3, g4, g5, g6, l1, l2, l3, l4, lZ_mul, lZ_sub]
end XSECTION

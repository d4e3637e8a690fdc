/-! ===== THE CLASS: the text, all clauses ===== -/
section XPARSE
variable {d : Nat} {h : qH} {R : qRes} {tx : List Nat}
theorem ptX.keep {h' : qH} {k : Nat} {q : cls4} (v : ptX h k q) (e : ∀ j, j < k * 5 + 5 → hi h' 52 j = hi h 52 j) : ptX h' k q := by
  rcases q with ⟨a, b, c⟩ | q
  · obtain ⟨v1, v2, v3⟩ := v
    exact ⟨by rw [e _ (by omega)]; exact v1, by rw [e _ (by omega)]; exact v2, by rw [e _ (by omega)]; exact v3⟩
  · obtain ⟨v1, v2⟩ := v
    exact ⟨by rw [e _ (by omega)]; exact v1, fun j hj => by rw [e _ (by omega)]; exact v2 j hj⟩
theorem pCl0_skp {a c : Nat} (ha : a ≤ tx.length) : pCl0 tx (skp tx a) c = pCl0 tx a c := by
  unfold pCl0
  rw [skp_skp ha]
theorem pAll_skp {a c n : Nat} (ha : a ≤ tx.length) : pAll tx n (skp tx a) c = pAll tx n a c := by
  cases n with
  | zero => rfl
  | succ n =>
    unfold pAll pCls
    rw [skp_skp ha, pCl0_skp ha]
def paX (h : qH) (i : Nat) (cs : List cls4) (q : pFl ⊕ List cls4) : Prop := match q with
  | .inl f => FtX h (some f)
  | .inr l => FtX h none ∧ xi h 50 5 = iN (i + l.length) ∧ ∀ k, k < i + l.length → ptX h k ((cs ++ l).getD k l0c)
set_option maxRecDepth 100000 in
set_option maxHeartbeats 64000000 in
theorem x_parseLoop {c0 : Int32} : ∀ (w i a cn n : Nat) (g : qH) (cs : List cls4), i + w = 27 → ShX g → TxX g tx → AtX g tx a → skp tx a = a → FtX g none → xi g 50 5 = iN i → xi g 50 3 = iN cn → cn ≤ 8 → 6 * i ≤ a → tx.length - a < n → cs.length = i → (∀ k, k < i → ptX g k (cs.getD k l0c)) → ∃ h', (∀ R, qEv (d + 7) 4 qk_75 31 [some (.ref 50), some (.int c0), some (.int (iN i))] [] g R ↔ R = (none, h')) ∧ ChX [52] [(50, 2), (50, 3), (50, 5), (50, 6), (50, 7)] 0 g h' ∧ paX h' i cs (pAll tx n a cn) := by
  intro w
  induction w with
  | zero =>
    intro i a cn n g cs hi27 s t v ha vf m5 m3 h8 h6 hn hl hp
    have := v.1
    have := t.1
    omega
  | succ w ih =>
    intro i a cn n g cs hi27 s t v ha vf m5 m3 h8 h6 hn hl hp
    obtain ⟨n, rfl⟩ : ∃ n', n = n' + 1 := ⟨n - 1, by omega⟩
    have ma := v.2
    have al := v.1
    have t2 := t.2.1
    have l160 := t.1
    have f6 := vf.1
    by_cases he : tx.length ≤ a
    · refine ⟨g, fun R => ?_, ChX.refl s, ?_⟩
      · rw [e75_31]
        simp (disch := first | assumption | omega) only [e75_0, e75_1, e75_2, e75_5, e75_6, e75_7, e75_10, e75_11, e75_12, e75_15, e75_16, e75_17, e75_20, e75_21, e75_22, e75_25, e75_26, e75_29, e75_30, e75_32, e75_34, e75_37, e75_38, e75_41, e75_42, e75_45, e75_48, e75_49, e75_52, e75_55, e75_56, e75_59, e75_60, e75_62, e75_65, e75_66, e75_67, e75_70, e75_71, e75_72, e75_75, e75_76, e75_79, e75_82, e75_85, m75, ↓reduceIte, qg_0, qg_1, qg_2, qg_3, qg_4, qg_5, qg_6, qg_7, qg_8, qg_9, qg_10, qg_11, qg_12, qg_13, not_true_eq_false, not_false_eq_true, Nat.reduceBEq, Bool.false_eq_true, ex1, ex3, ex4, exF, qfit_i, qfit_l, qfit_r, qfit_n, qfit_b0, qfit_b1, qcat_i, qcat_r, qcat_n, qcat_l, qroom_0, qroom_c, List.map_cons, List.map_nil, List.sum_cons, List.sum_nil, Nat.reduceAdd, Nat.reduceMul, Nat.reduceLT, Nat.reduceLeDiff, Nat.reduceEqDiff, Nat.reduceSub, decide_true, true_and, and_true, and_self, if_true, if_false, Option.toList_some, Option.toList_none, List.cons_append, List.nil_append, qsL, qlong, List.length_cons, List.length_nil, iN_L, exI, iN_add, iN_mul, iN_le, iN_lt, iN_eq, Nat.le_refl, qfN0, qfN1, uX_16, vX_16, uX_19, vX_19, uX_27, vX_27, uX_30, vX_30, uX_39, vX_39, uX_41, vX_41, uX_43, vX_43, uX_46, vX_46, uX_50, vX_50, uX_53, vX_53, show ¬ 27 ≤ i by omega, gX_50_1, gX_50_2, ma, t2, he]
      · have e : pAll tx (n + 1) a cn = .inr [] := by
          unfold pAll
          rw [ha, if_pos he]
        rw [e]
        exact ⟨vf, m5, fun k hk => by rw [List.append_nil]; exact hp k hk⟩
    · obtain ⟨g1, r1, c1, y1, a1, v1, f1, e1⟩ := x_parseClause (d := d + 1) (cn := cn) s t v vf ha m5 (by omega) m3 h8
      have s1 := c1.sh
      have t1 := t.ch c1 s (by decide) (by decide)
      have n5 := (c1.xi (b := 50) (j := 5) (by decide) (by decide)).trans m5
      obtain ⟨g2, r2, c2, a2, v2, f2, e2⟩ := x_needSemi (d := d + 3) s1 t1 v1 f1
      have s2 := c2.sh
      have t2' := t1.ch c2 s1 (by intro z; cases z) (by decide)
      have o5 := (c2.xi (b := 50) (j := 5) (by decide) (by decide)).trans n5
      have er : (erQ (pCl0 tx a cn)).or (erQ (pChr tx a1 isSc)) = erQ (pCls tx a cn) := by
        unfold pCls
        refine er_or fun q hq => ?_
        rw [(e1 q hq).1]
        exact er_map.symm
      rw [er] at f2
      obtain ⟨g3, e3⟩ : ∃ g3, g3 = xV g2 50 5 (.int (iN (i + 1))) := ⟨_, rfl⟩
      have p3 : qput g2 50 6 5 (.int (iN (i + 1))) = some g3 := by rw [e3]; exact pX_50_5 s2
      have c3 : ChX [] [(50, 5)] 0 g2 g3 := by rw [e3]; exact ChX.setI s2 (by decide) (by decide)
      have s3 := c3.sh
      have t3 := t2'.ch c3 s2 (by intro z; cases z) (by decide)
      have v3 := v2.ch c3 (by decide)
      have f3 := f2.ch c3 (by decide) (by decide)
      have q5 : xi g3 50 5 = iN (i + 1) := by rw [e3, xi_xV, if_pos ⟨rfl, rfl⟩]
      obtain ⟨g4, r4, c4, v4⟩ := x_skips (d := d + 5) s3 t3 v3
      have s4 := c4.sh
      have t4 := t3.ch c4 s3 (by intro z; cases z) (by decide)
      have f4 := f3.ch c4 (by decide) (by decide)
      have u5 := (c4.xi (b := 50) (j := 5) (by decide) (by decide)).trans q5
      have cc : ChX [52] [(50, 2), (50, 3), (50, 5), (50, 6), (50, 7)] 0 g g4 := (c1.mono (fun _ z => z) (by decide) (Nat.le_refl _)).trans0 <| (c2.mono (by intro _ z; cases z) (by decide) (Nat.le_refl _)).trans0 <| (c3.mono (by intro _ z; cases z) (by decide) (Nat.le_refl _)).trans0 (c4.mono (by intro _ z; cases z) (by decide) (Nat.le_refl _))
      have rows : ∀ j, hi g4 52 j = hi g1 52 j := fun j => by rw [row52 c4 s3, row52 c3 s2, row52 c2 s1]
      have step : ∀ R, qEv (d + 7) 4 qk_75 31 [some (.ref 50), some (.int c0), some (.int (iN i))] [] g R ↔ qEv (d + 7) 4 qk_75 31 [some (.ref 50), some (.int c0), some (.int (iN (i + 1)))] [] g4 R := fun R => by
        rw [e75_31]
        simp (disch := first | assumption | omega) only [e75_0, e75_1, e75_2, e75_5, e75_6, e75_7, e75_10, e75_11, e75_12, e75_15, e75_16, e75_17, e75_20, e75_21, e75_22, e75_25, e75_26, e75_29, e75_30, e75_32, e75_34, e75_37, e75_38, e75_41, e75_42, e75_45, e75_48, e75_49, e75_52, e75_55, e75_56, e75_59, e75_60, e75_62, e75_65, e75_66, e75_67, e75_70, e75_71, e75_72, e75_75, e75_76, e75_79, e75_82, e75_85, m75, ↓reduceIte, qg_0, qg_1, qg_2, qg_3, qg_4, qg_5, qg_6, qg_7, qg_8, qg_9, qg_10, qg_11, qg_12, qg_13, not_true_eq_false, not_false_eq_true, Nat.reduceBEq, Bool.false_eq_true, ex1, ex3, ex4, exF, qfit_i, qfit_l, qfit_r, qfit_n, qfit_b0, qfit_b1, qcat_i, qcat_r, qcat_n, qcat_l, qroom_0, qroom_c, List.map_cons, List.map_nil, List.sum_cons, List.sum_nil, Nat.reduceAdd, Nat.reduceMul, Nat.reduceLT, Nat.reduceLeDiff, Nat.reduceEqDiff, Nat.reduceSub, decide_true, true_and, and_true, and_self, if_true, if_false, Option.toList_some, Option.toList_none, List.cons_append, List.nil_append, qsL, qlong, List.length_cons, List.length_nil, iN_L, exI, iN_add, iN_mul, iN_le, iN_lt, iN_eq, Nat.le_refl, qfN0, qfN1, uX_16, vX_16, uX_19, vX_19, uX_27, vX_27, uX_30, vX_30, uX_39, vX_39, uX_41, vX_41, uX_43, vX_43, uX_46, vX_46, uX_50, vX_50, uX_53, vX_53, show ¬ 27 ≤ i by omega, gX_50_1, gX_50_2, gX_50_5, gX_50_6, ma, t2, he, f6, r1, r2, o5, p3, r4]
      have e0 : pAll tx (n + 1) a cn = pB (pCls tx a cn) fun q => pB (pAll tx n q.1 (cn + isCm q.2)) fun l => .inr (q.2 :: l) := by
        rw [pAll, ha, if_neg he]
      cases hq : pCls tx a cn with
      | inl e =>
        rw [hq] at f4
        have k6 := f4.2.1
        have kb := f4.1
        have w2 := t4.2.1
        have x2 := v4.2
        have xl := v4.1
        refine ⟨g4, fun R => ?_, cc, ?_⟩
        · rw [step R, e75_31]
          by_cases z1 : 27 ≤ i + 1
          · simp (disch := first | assumption | omega) only [e75_0, e75_1, e75_2, e75_5, e75_6, e75_7, e75_10, e75_11, e75_12, e75_15, e75_16, e75_17, e75_20, e75_21, e75_22, e75_25, e75_26, e75_29, e75_30, e75_32, e75_34, e75_37, e75_38, e75_41, e75_42, e75_45, e75_48, e75_49, e75_52, e75_55, e75_56, e75_59, e75_60, e75_62, e75_65, e75_66, e75_67, e75_70, e75_71, e75_72, e75_75, e75_76, e75_79, e75_82, e75_85, m75, ↓reduceIte, qg_0, qg_1, qg_2, qg_3, qg_4, qg_5, qg_6, qg_7, qg_8, qg_9, qg_10, qg_11, qg_12, qg_13, not_true_eq_false, not_false_eq_true, Nat.reduceBEq, Bool.false_eq_true, ex1, ex3, ex4, exF, qfit_i, qfit_l, qfit_r, qfit_n, qfit_b0, qfit_b1, qcat_i, qcat_r, qcat_n, qcat_l, qroom_0, qroom_c, List.map_cons, List.map_nil, List.sum_cons, List.sum_nil, Nat.reduceAdd, Nat.reduceMul, Nat.reduceLT, Nat.reduceLeDiff, Nat.reduceEqDiff, Nat.reduceSub, decide_true, true_and, and_true, and_self, if_true, if_false, Option.toList_some, Option.toList_none, List.cons_append, List.nil_append, qsL, qlong, List.length_cons, List.length_nil, iN_L, exI, iN_add, iN_mul, iN_le, iN_lt, iN_eq, Nat.le_refl, qfN0, qfN1, uX_16, vX_16, uX_19, vX_19, uX_27, vX_27, uX_30, vX_30, uX_39, vX_39, uX_41, vX_41, uX_43, vX_43, uX_46, vX_46, uX_50, vX_50, uX_53, vX_53, z1]
          · by_cases z2 : tx.length ≤ skp tx a2
            · simp (disch := first | assumption | omega) only [e75_0, e75_1, e75_2, e75_5, e75_6, e75_7, e75_10, e75_11, e75_12, e75_15, e75_16, e75_17, e75_20, e75_21, e75_22, e75_25, e75_26, e75_29, e75_30, e75_32, e75_34, e75_37, e75_38, e75_41, e75_42, e75_45, e75_48, e75_49, e75_52, e75_55, e75_56, e75_59, e75_60, e75_62, e75_65, e75_66, e75_67, e75_70, e75_71, e75_72, e75_75, e75_76, e75_79, e75_82, e75_85, m75, ↓reduceIte, qg_0, qg_1, qg_2, qg_3, qg_4, qg_5, qg_6, qg_7, qg_8, qg_9, qg_10, qg_11, qg_12, qg_13, not_true_eq_false, not_false_eq_true, Nat.reduceBEq, Bool.false_eq_true, ex1, ex3, ex4, exF, qfit_i, qfit_l, qfit_r, qfit_n, qfit_b0, qfit_b1, qcat_i, qcat_r, qcat_n, qcat_l, qroom_0, qroom_c, List.map_cons, List.map_nil, List.sum_cons, List.sum_nil, Nat.reduceAdd, Nat.reduceMul, Nat.reduceLT, Nat.reduceLeDiff, Nat.reduceEqDiff, Nat.reduceSub, decide_true, true_and, and_true, and_self, if_true, if_false, Option.toList_some, Option.toList_none, List.cons_append, List.nil_append, qsL, qlong, List.length_cons, List.length_nil, iN_L, exI, iN_add, iN_mul, iN_le, iN_lt, iN_eq, Nat.le_refl, qfN0, qfN1, uX_16, vX_16, uX_19, vX_19, uX_27, vX_27, uX_30, vX_30, uX_39, vX_39, uX_41, vX_41, uX_43, vX_43, uX_46, vX_46, uX_50, vX_50, uX_53, vX_53, z1, gX_50_1, gX_50_2, w2, x2, z2]
            · simp (disch := first | assumption | omega) only [e75_0, e75_1, e75_2, e75_5, e75_6, e75_7, e75_10, e75_11, e75_12, e75_15, e75_16, e75_17, e75_20, e75_21, e75_22, e75_25, e75_26, e75_29, e75_30, e75_32, e75_34, e75_37, e75_38, e75_41, e75_42, e75_45, e75_48, e75_49, e75_52, e75_55, e75_56, e75_59, e75_60, e75_62, e75_65, e75_66, e75_67, e75_70, e75_71, e75_72, e75_75, e75_76, e75_79, e75_82, e75_85, m75, ↓reduceIte, qg_0, qg_1, qg_2, qg_3, qg_4, qg_5, qg_6, qg_7, qg_8, qg_9, qg_10, qg_11, qg_12, qg_13, not_true_eq_false, not_false_eq_true, Nat.reduceBEq, Bool.false_eq_true, ex1, ex3, ex4, exF, qfit_i, qfit_l, qfit_r, qfit_n, qfit_b0, qfit_b1, qcat_i, qcat_r, qcat_n, qcat_l, qroom_0, qroom_c, List.map_cons, List.map_nil, List.sum_cons, List.sum_nil, Nat.reduceAdd, Nat.reduceMul, Nat.reduceLT, Nat.reduceLeDiff, Nat.reduceEqDiff, Nat.reduceSub, decide_true, true_and, and_true, and_self, if_true, if_false, Option.toList_some, Option.toList_none, List.cons_append, List.nil_append, qsL, qlong, List.length_cons, List.length_nil, iN_L, exI, iN_add, iN_mul, iN_le, iN_lt, iN_eq, Nat.le_refl, qfN0, qfN1, uX_16, vX_16, uX_19, vX_19, uX_27, vX_27, uX_30, vX_30, uX_39, vX_39, uX_41, vX_41, uX_43, vX_43, uX_46, vX_46, uX_50, vX_50, uX_53, vX_53, z1, gX_50_1, gX_50_2, gX_50_6, w2, x2, z2, k6, show ¬ e.1 = 0 by omega]
        · rw [e0, hq]
          exact f4
      | inr q =>
        rw [hq] at f4
        obtain ⟨o1, o2, o3, o4⟩ := pCls_ok al h8 hq
        have hq' := hq
        unfold pCls at hq'
        obtain ⟨x1, h1, hq'⟩ := pB_ok hq'
        obtain ⟨i1, i2, i3⟩ := e1 x1 h1
        rw [i1] at hq'
        obtain ⟨x2, h2, hq'⟩ := pB_ok hq'
        have i4 := e2 x2 h2
        injection hq' with hq'
        have j1 : q.1 = a2 := by rw [← hq']; exact i4
        have j2 : q.2 = x1.2 := by rw [← hq']
        rw [← j2] at i2 i3
        have k3 : xi g4 50 3 = iN (cn + isCm q.2) := (c4.xi (by decide) (by decide)).trans ((c3.xi (by decide) (by decide)).trans ((c2.xi (by decide) (by decide)).trans i3))
        have a2l := v2.1
        have sge := skp_ge (tx := tx) (a := a2)
        obtain ⟨h', r', c', p'⟩ := ih (i + 1) (skp tx a2) (cn + isCm q.2) n g4 (cs ++ [q.2]) (by omega) s4 t4 v4 (skp_skp a2l) f4 u5 k3 o4 (by omega) (by omega) (by rw [List.length_append, hl]; rfl) (fun k hk => by
          rw [getD_app, hl]
          by_cases z : k < i
          · rw [if_pos z]
            exact (hp k z).keep fun j hj => by rw [rows, y1 j (Or.inl (by omega))]
          · rw [if_neg z, if_pos (by omega), show k = i by omega]
            exact i2.keep fun j hj => rows j)
        refine ⟨h', fun R => (step R).trans (r' R), cc.trans0 c', ?_⟩
        rw [pAll_skp a2l] at p'
        rw [e0, hq]
        show paX h' i cs (pB (pAll tx n q.1 (cn + isCm q.2)) fun l => .inr (q.2 :: l))
        rw [j1]
        cases hz : pAll tx n a2 (cn + isCm q.2) with
        | inl e => rw [hz] at p'; exact p'
        | inr l =>
          rw [hz] at p'
          obtain ⟨p1, p2, p3⟩ := p'
          have ll : i + (q.2 :: l).length = i + 1 + l.length := by rw [List.length_cons]; omega
          exact ⟨p1, by rw [ll]; exact p2, fun k hk => by
            have := p3 k (by rw [← ll]; exact hk)
            rw [List.append_assoc] at this
            exact this⟩
set_option maxRecDepth 100000 in
set_option maxHeartbeats 16000000 in
theorem x_parse {cn : Nat} (s : ShX h) (t : TxX h tx) (h8 : cn ≤ 8) : ∃ h', (∀ R, qMC (d + 8) 75 [.ref 50, .int (iN cn)] h R ↔ R = (none, h')) ∧ ChX [52] [(50, 2), (50, 3), (50, 5), (50, 6), (50, 7)] 0 h h' ∧ paX h' 0 [] (pAll tx (tx.length + 1) 0 cn) := by
  obtain ⟨g1, e1⟩ : ∃ g1, g1 = xV h 50 2 (.int (iN 0)) := ⟨_, rfl⟩
  have p1 : qput h 50 6 2 (.int (iN 0)) = some g1 := by rw [e1]; exact pX_50_2 s
  have c1 : ChX [] [(50, 2), (50, 3), (50, 5), (50, 6), (50, 7)] 0 h g1 := by rw [e1]; exact ChX.setI s (by decide) (by decide)
  have s1 := c1.sh
  obtain ⟨g2, e2⟩ : ∃ g2, g2 = xV g1 50 5 (.int (iN 0)) := ⟨_, rfl⟩
  have p2 : qput g1 50 6 5 (.int (iN 0)) = some g2 := by rw [e2]; exact pX_50_5 s1
  have c2 : ChX [] [(50, 2), (50, 3), (50, 5), (50, 6), (50, 7)] 0 h g2 := c1.trans0 (by rw [e2]; exact ChX.setI s1 (by decide) (by decide))
  have s2 := c2.sh
  obtain ⟨g3, e3⟩ : ∃ g3, g3 = xV g2 50 3 (.int (iN cn)) := ⟨_, rfl⟩
  have p3 : qput g2 50 6 3 (.int (iN cn)) = some g3 := by rw [e3]; exact pX_50_3 s2
  have c3 : ChX [] [(50, 2), (50, 3), (50, 5), (50, 6), (50, 7)] 0 h g3 := c2.trans0 (by rw [e3]; exact ChX.setI s2 (by decide) (by decide))
  have s3 := c3.sh
  obtain ⟨g4, e4⟩ : ∃ g4, g4 = xV g3 50 6 (.int (iN 0)) := ⟨_, rfl⟩
  have p4 : qput g3 50 6 6 (.int (iN 0)) = some g4 := by rw [e4]; exact pX_50_6 s3
  have c4 : ChX [] [(50, 2), (50, 3), (50, 5), (50, 6), (50, 7)] 0 h g4 := c3.trans0 (by rw [e4]; exact ChX.setI s3 (by decide) (by decide))
  have s4 := c4.sh
  obtain ⟨g5, e5⟩ : ∃ g5, g5 = xV g4 50 7 (.int (-iN 1)) := ⟨_, rfl⟩
  have p5 : qput g4 50 6 7 (.int (-iN 1)) = some g5 := by rw [e5]; exact pX_50_7 s4
  have c5 : ChX [] [(50, 2), (50, 3), (50, 5), (50, 6), (50, 7)] 0 h g5 := c4.trans0 (by rw [e5]; exact ChX.setI s4 (by decide) (by decide))
  have s5 := c5.sh
  have t5 := t.ch c5 s (by intro z; cases z) (by decide)
  have v5 : AtX g5 tx 0 := ⟨Nat.zero_le _, by rw [e5, xi_xV, if_neg (by decide), e4, xi_xV, if_neg (by decide), e3, xi_xV, if_neg (by decide), e2, xi_xV, if_neg (by decide), e1, xi_xV, if_pos ⟨rfl, rfl⟩]⟩
  have f5 : FtX g5 none := ⟨by rw [e5, xi_xV, if_neg (by decide), e4, xi_xV, if_pos ⟨rfl, rfl⟩], by rw [e5, xi_xV, if_pos ⟨rfl, rfl⟩]⟩
  have m5 : xi g5 50 5 = iN 0 := by rw [e5, xi_xV, if_neg (by decide), e4, xi_xV, if_neg (by decide), e3, xi_xV, if_neg (by decide), e2, xi_xV, if_pos ⟨rfl, rfl⟩]
  have m3 : xi g5 50 3 = iN cn := by rw [e5, xi_xV, if_neg (by decide), e4, xi_xV, if_neg (by decide), e3, xi_xV, if_pos ⟨rfl, rfl⟩]
  obtain ⟨g6, r6, c6, v6⟩ := x_skips (d := d + 5) s5 t5 v5
  have s6 := c6.sh
  obtain ⟨h', r', c', p'⟩ := x_parseLoop (d := d) (c0 := iN cn) 27 0 (skp tx 0) cn (tx.length + 1) g6 [] rfl s6 (t5.ch c6 s5 (by intro z; cases z) (by decide)) v6 (skp_skp (Nat.zero_le _)) (f5.ch c6 (by decide) (by decide)) ((c6.xi (by decide) (by decide)).trans m5) ((c6.xi (by decide) (by decide)).trans m3) h8 (by omega) (by omega) rfl (fun k hk => absurd hk (Nat.not_lt_zero k))
  rw [pAll_skp (Nat.zero_le _)] at p'
  refine ⟨h', fun R => ?_, (c5.mono (by intro _ z; cases z) (fun _ z => z) (Nat.le_refl _)).trans0 <| (c6.mono (by intro _ z; cases z) (by decide) (Nat.le_refl _)).trans0 c', p'⟩
  rw [← r' R]
  simp (disch := first | assumption | omega) only [e75_0, e75_1, e75_2, e75_5, e75_6, e75_7, e75_10, e75_11, e75_12, e75_15, e75_16, e75_17, e75_20, e75_21, e75_22, e75_25, e75_26, e75_29, e75_30, e75_32, e75_34, e75_37, e75_38, e75_41, e75_42, e75_45, e75_48, e75_49, e75_52, e75_55, e75_56, e75_59, e75_60, e75_62, e75_65, e75_66, e75_67, e75_70, e75_71, e75_72, e75_75, e75_76, e75_79, e75_82, e75_85, m75, ↓reduceIte, qg_0, qg_1, qg_2, qg_3, qg_4, qg_5, qg_6, qg_7, qg_8, qg_9, qg_10, qg_11, qg_12, qg_13, not_true_eq_false, not_false_eq_true, Nat.reduceBEq, Bool.false_eq_true, ex1, ex3, ex4, exF, qfit_i, qfit_l, qfit_r, qfit_n, qfit_b0, qfit_b1, qcat_i, qcat_r, qcat_n, qcat_l, qroom_0, qroom_c, List.map_cons, List.map_nil, List.sum_cons, List.sum_nil, Nat.reduceAdd, Nat.reduceMul, Nat.reduceLT, Nat.reduceLeDiff, Nat.reduceEqDiff, Nat.reduceSub, decide_true, true_and, and_true, and_self, if_true, if_false, Option.toList_some, Option.toList_none, List.cons_append, List.nil_append, qsL, qlong, List.length_cons, List.length_nil, iN_L, exI, iN_add, iN_mul, iN_le, iN_lt, iN_eq, Nat.le_refl, qfN0, qfN1, uX_16, vX_16, uX_19, vX_19, uX_27, vX_27, uX_30, vX_30, uX_39, vX_39, uX_41, vX_41, uX_43, vX_43, uX_46, vX_46, uX_50, vX_50, uX_53, vX_53, p1, p2, p3, p4, p5, r6]
end XPARSE

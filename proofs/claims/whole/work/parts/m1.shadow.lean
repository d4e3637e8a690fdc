/-! ===== THE CLASS: shadow, product ===== -/
section XSHADOW
variable {d D : Nat} {h : qH} {R : qRes} {l : List pt4} {bs : List bdy} {sa : Nat → Nat}
theorem SoD.sp {a D : Nat} {sc : Int32} {cs : List pt4} {C : Nat → List Nat} {p q w e : Nat} {B : Nat → Nat} (S : SoD h a D sc cs C p q w e B) (P : SoP D cs C) {c : Nat} (hc : c < cs.length) : spX h p (c * 4) (cs.getD c z4) := by
  obtain ⟨-, -, ⟨p97, kp, hp⟩, -⟩ := S
  exact ⟨_, kp, by omega, fun k hk => ⟨hp c hc k hk, P.2.2.1 c hc k hk⟩⟩
theorem SoP.sm {D : Nat} {cs : List pt4} {C : Nat → List Nat} (P : SoP D cs C) : smP cs := fun q hq t ht => by
  obtain ⟨c, hc, e⟩ := List.getElem_of_mem hq
  have := P.2.2.1 c hc t ht
  unfold lP at this
  rw [lP_at hc, e] at this
  exact this
theorem shdL_len (k : Nat) (cs : List pt4) : (shdL k cs).length = cs.length := List.length_map ..
/-- coordinates of points told are those of the points -/
theorem tell_sm {qs : List pt4} (sm : smP qs) : smP (tellAll D [] qs) := (tellAll_ok (D := D) qs [] List.nodup_nil (fun r hr => absurd hr List.not_mem_nil) (fun q hq => absurd hq List.not_mem_nil) sm).2.2
theorem drp_sm {k : Nat} {q : pt4} (h : ∀ t, t < 4 → -999 ≤ co q t ∧ co q t ≤ 999) : ∀ t, t < 4 → -999 ≤ co (drp k q) t ∧ co (drp k q) t ≤ 999 := by
  intro t ht
  match t, ht with
  | 0, _ => show -999 ≤ co q (if 0 < k then 0 else 1) ∧ co q (if 0 < k then 0 else 1) ≤ 999; split; exact h 0 (by decide); exact h 1 (by decide)
  | 1, _ => show -999 ≤ co q (if 1 < k then 1 else 2) ∧ co q (if 1 < k then 1 else 2) ≤ 999; split; exact h 1 (by decide); exact h 2 (by decide)
  | 2, _ => show -999 ≤ co q (if 2 < k then 2 else 3) ∧ co q (if 2 < k then 2 else 3) ≤ 999; split; exact h 2 (by decide); exact h 3 (by decide)
  | 3, _ => show (-999 : Int) ≤ 0 ∧ (0 : Int) ≤ 999; decide
set_option maxRecDepth 100000 in
set_option maxHeartbeats 16000000 in
theorem x_shadow {x y v : Int32} {bs' : List bdy} (s : ShX h) (X : BsX h bs sa) (hv : shdR bs x y v bs') : ∃ h' sa', (∀ R, qMC (d + 8) 138 [.ref 16, .int x, .int y] h R ↔ R = (some (.int v), h')) ∧ ChX bdA bdJ 16 h h' ∧ BsX h' bs' sa' := by
  rcases hv with ⟨hx, rfl, eb⟩ | ⟨i, ⟨hi', rfl⟩, hv⟩
  · have b : ∀ R, qMC (d + 7) 179 [.ref 16, .int x] h R ↔ R = (some .null, h) := fun R => x_bodyAt0 s X hx
    refine ⟨h, sa, fun R => ?_, ChX.refl s, by rw [eb]; exact X⟩
    simp (disch := first | assumption | omega) only [e138_0, e138_1, e138_2, e138_5, e138_6, e138_7, e138_7N, e138_10, e138_13, e138_14, e138_15, e138_18, e138_19, e138_20, e138_23, e138_26, e138_27, e138_30, e138_31, e138_34, e138_37, e138_38, e138_39, e138_42, e138_44, e138_47, e138_50, e138_51, e138_52, e138_55, e138_56, e138_59, e138_60, e138_61, e138_64, e138_65, e138_67, e138_69, e138_70, e138_73, e138_76, e138_77, e138_80, e138_81, e138_84, e138_86, e138_87, e138_88, e138_89, e138_92, e138_95, e138_98, e138_99, e138_100, e138_103, m138, ↓reduceIte, qg_0, qg_1, qg_2, qg_3, qg_4, qg_5, qg_6, qg_7, qg_8, qg_9, qg_10, qg_11, qg_12, qg_13, not_true_eq_false, not_false_eq_true, Nat.reduceBEq, Bool.false_eq_true, ex1, ex3, ex4, exF, qfit_i, qfit_l, qfit_r, qfit_n, qfit_b0, qfit_b1, qcat_i, qcat_r, qcat_n, qcat_l, qroom_0, qroom_c, List.map_cons, List.map_nil, List.sum_cons, List.sum_nil, Nat.reduceAdd, Nat.reduceMul, Nat.reduceLT, Nat.reduceLeDiff, Nat.reduceEqDiff, Nat.reduceSub, decide_true, true_and, and_true, and_self, if_true, if_false, Option.toList_some, Option.toList_none, List.cons_append, List.nil_append, qsL, qlong, List.length_cons, List.length_nil, iN_L, exI, iN_add, iN_mul, iN_le, iN_lt, iN_eq, Nat.le_refl, qfN0, qfN1, uX_16, vX_16, uX_19, vX_19, uX_27, vX_27, uX_30, vX_30, uX_39, vX_39, uX_41, vX_41, uX_43, vX_43, uX_46, vX_46, uX_50, vX_50, uX_53, vX_53, b]
  · have b : ∀ R, qMC (d + 7) 179 [.ref 16, .int (iN i)] h R ↔ R = (some (.ref (sa i)), h) := fun R => x_bodyAt1 s X hi'
    obtain ⟨p, q, w, e, B, S, P⟩ := X.at hi'
    obtain ⟨⟨u16, ult, uF⟩, g0, g1, g2, g3, g4, g5, g6⟩ := S.obj
    have hD := P.1
    have m0 := X.2.1
    have b24 := X.1
    have n16 := P.2.1.2
    rcases hv with ⟨hy, rfl, eb⟩ | ⟨k, ⟨d2, hk, rfl⟩, hv⟩
    · refine ⟨h, sa, fun R => ?_, ChX.refl s, by rw [eb]; exact X⟩
      by_cases q1 : y < iN 0
      · simp (disch := first | assumption | omega) only [e138_0, e138_1, e138_2, e138_5, e138_6, e138_7, e138_7N, e138_10, e138_13, e138_14, e138_15, e138_18, e138_19, e138_20, e138_23, e138_26, e138_27, e138_30, e138_31, e138_34, e138_37, e138_38, e138_39, e138_42, e138_44, e138_47, e138_50, e138_51, e138_52, e138_55, e138_56, e138_59, e138_60, e138_61, e138_64, e138_65, e138_67, e138_69, e138_70, e138_73, e138_76, e138_77, e138_80, e138_81, e138_84, e138_86, e138_87, e138_88, e138_89, e138_92, e138_95, e138_98, e138_99, e138_100, e138_103, m138, ↓reduceIte, qg_0, qg_1, qg_2, qg_3, qg_4, qg_5, qg_6, qg_7, qg_8, qg_9, qg_10, qg_11, qg_12, qg_13, not_true_eq_false, not_false_eq_true, Nat.reduceBEq, Bool.false_eq_true, ex1, ex3, ex4, exF, qfit_i, qfit_l, qfit_r, qfit_n, qfit_b0, qfit_b1, qcat_i, qcat_r, qcat_n, qcat_l, qroom_0, qroom_c, List.map_cons, List.map_nil, List.sum_cons, List.sum_nil, Nat.reduceAdd, Nat.reduceMul, Nat.reduceLT, Nat.reduceLeDiff, Nat.reduceEqDiff, Nat.reduceSub, decide_true, true_and, and_true, and_self, if_true, if_false, Option.toList_some, Option.toList_none, List.cons_append, List.nil_append, qsL, qlong, List.length_cons, List.length_nil, iN_L, exI, iN_add, iN_mul, iN_le, iN_lt, iN_eq, Nat.le_refl, qfN0, qfN1, uX_16, vX_16, uX_19, vX_19, uX_27, vX_27, uX_30, vX_30, uX_39, vX_39, uX_41, vX_41, uX_43, vX_43, uX_46, vX_46, uX_50, vX_50, uX_53, vX_53, b, q1]
      · by_cases q2 : iN (dmn bs i) ≤ y
        · simp (disch := first | assumption | omega) only [e138_0, e138_1, e138_2, e138_5, e138_6, e138_7, e138_7N, e138_10, e138_13, e138_14, e138_15, e138_18, e138_19, e138_20, e138_23, e138_26, e138_27, e138_30, e138_31, e138_34, e138_37, e138_38, e138_39, e138_42, e138_44, e138_47, e138_50, e138_51, e138_52, e138_55, e138_56, e138_59, e138_60, e138_61, e138_64, e138_65, e138_67, e138_69, e138_70, e138_73, e138_76, e138_77, e138_80, e138_81, e138_84, e138_86, e138_87, e138_88, e138_89, e138_92, e138_95, e138_98, e138_99, e138_100, e138_103, m138, ↓reduceIte, qg_0, qg_1, qg_2, qg_3, qg_4, qg_5, qg_6, qg_7, qg_8, qg_9, qg_10, qg_11, qg_12, qg_13, not_true_eq_false, not_false_eq_true, Nat.reduceBEq, Bool.false_eq_true, ex1, ex3, ex4, exF, qfit_i, qfit_l, qfit_r, qfit_n, qfit_b0, qfit_b1, qcat_i, qcat_r, qcat_n, qcat_l, qroom_0, qroom_c, List.map_cons, List.map_nil, List.sum_cons, List.sum_nil, Nat.reduceAdd, Nat.reduceMul, Nat.reduceLT, Nat.reduceLeDiff, Nat.reduceEqDiff, Nat.reduceSub, decide_true, true_and, and_true, and_self, if_true, if_false, Option.toList_some, Option.toList_none, List.cons_append, List.nil_append, qsL, qlong, List.length_cons, List.length_nil, iN_L, exI, iN_add, iN_mul, iN_le, iN_lt, iN_eq, Nat.le_refl, qfN0, qfN1, uX_16, vX_16, uX_19, vX_19, uX_27, vX_27, uX_30, vX_30, uX_39, vX_39, uX_41, vX_41, uX_43, vX_43, uX_46, vX_46, uX_50, vX_50, uX_53, vX_53, b, q1, u16, ult, uF, g0, g1, g2, g3, g4, g5, g6, q2]
        · have q3 : ∃ k, k < dmn bs i ∧ y = iN k := (lt_cnt (by omega)).mpr ⟨q1, q2⟩
          have q4 : dmn bs i = 2 := hy.resolve_right (fun z => z q3)
          have q2' : ¬ iN 2 ≤ y := by rw [← q4]; exact q2
          simp (disch := first | assumption | omega) only [e138_0, e138_1, e138_2, e138_5, e138_6, e138_7, e138_7N, e138_10, e138_13, e138_14, e138_15, e138_18, e138_19, e138_20, e138_23, e138_26, e138_27, e138_30, e138_31, e138_34, e138_37, e138_38, e138_39, e138_42, e138_44, e138_47, e138_50, e138_51, e138_52, e138_55, e138_56, e138_59, e138_60, e138_61, e138_64, e138_65, e138_67, e138_69, e138_70, e138_73, e138_76, e138_77, e138_80, e138_81, e138_84, e138_86, e138_87, e138_88, e138_89, e138_92, e138_95, e138_98, e138_99, e138_100, e138_103, m138, ↓reduceIte, qg_0, qg_1, qg_2, qg_3, qg_4, qg_5, qg_6, qg_7, qg_8, qg_9, qg_10, qg_11, qg_12, qg_13, not_true_eq_false, not_false_eq_true, Nat.reduceBEq, Bool.false_eq_true, ex1, ex3, ex4, exF, qfit_i, qfit_l, qfit_r, qfit_n, qfit_b0, qfit_b1, qcat_i, qcat_r, qcat_n, qcat_l, qroom_0, qroom_c, List.map_cons, List.map_nil, List.sum_cons, List.sum_nil, Nat.reduceAdd, Nat.reduceMul, Nat.reduceLT, Nat.reduceLeDiff, Nat.reduceEqDiff, Nat.reduceSub, decide_true, true_and, and_true, and_self, if_true, if_false, Option.toList_some, Option.toList_none, List.cons_append, List.nil_append, qsL, qlong, List.length_cons, List.length_nil, iN_L, exI, iN_add, iN_mul, iN_le, iN_lt, iN_eq, Nat.le_refl, qfN0, qfN1, uX_16, vX_16, uX_19, vX_19, uX_27, vX_27, uX_30, vX_30, uX_39, vX_39, uX_41, vX_41, uX_43, vX_43, uX_46, vX_46, uX_50, vX_50, uX_53, vX_53, b, q1, u16, ult, uF, g0, g1, g2, g3, g4, g5, g6, q4, q2']
    · by_cases l24 : bs.length = 24
      · rcases hv with ⟨-, rfl, eb⟩ | ⟨⟨z, -⟩, -⟩ | ⟨⟨z, -⟩, -⟩ | ⟨⟨z, -⟩, -⟩
        · refine ⟨h, sa, fun R => ?_, ChX.refl s, by rw [eb]; exact X⟩
          simp (disch := first | assumption | omega) only [e138_0, e138_1, e138_2, e138_5, e138_6, e138_7, e138_7N, e138_10, e138_13, e138_14, e138_15, e138_18, e138_19, e138_20, e138_23, e138_26, e138_27, e138_30, e138_31, e138_34, e138_37, e138_38, e138_39, e138_42, e138_44, e138_47, e138_50, e138_51, e138_52, e138_55, e138_56, e138_59, e138_60, e138_61, e138_64, e138_65, e138_67, e138_69, e138_70, e138_73, e138_76, e138_77, e138_80, e138_81, e138_84, e138_86, e138_87, e138_88, e138_89, e138_92, e138_95, e138_98, e138_99, e138_100, e138_103, m138, ↓reduceIte, qg_0, qg_1, qg_2, qg_3, qg_4, qg_5, qg_6, qg_7, qg_8, qg_9, qg_10, qg_11, qg_12, qg_13, not_true_eq_false, not_false_eq_true, Nat.reduceBEq, Bool.false_eq_true, ex1, ex3, ex4, exF, qfit_i, qfit_l, qfit_r, qfit_n, qfit_b0, qfit_b1, qcat_i, qcat_r, qcat_n, qcat_l, qroom_0, qroom_c, List.map_cons, List.map_nil, List.sum_cons, List.sum_nil, Nat.reduceAdd, Nat.reduceMul, Nat.reduceLT, Nat.reduceLeDiff, Nat.reduceEqDiff, Nat.reduceSub, decide_true, true_and, and_true, and_self, if_true, if_false, Option.toList_some, Option.toList_none, List.cons_append, List.nil_append, qsL, qlong, List.length_cons, List.length_nil, iN_L, exI, iN_add, iN_mul, iN_le, iN_lt, iN_eq, Nat.le_refl, qfN0, qfN1, uX_16, vX_16, uX_19, vX_19, uX_27, vX_27, uX_30, vX_30, uX_39, vX_39, uX_41, vX_41, uX_43, vX_43, uX_46, vX_46, uX_50, vX_50, uX_53, vX_53, b, u16, ult, uF, g0, g1, g2, g3, g4, g5, g6, show ¬ k < 0 by omega, show ¬ dmn bs i ≤ k by omega, d2, gX_16_1, m0, l24]
        all_goals omega
      · have eD : iN (dmn bs i) - iN 1 = iN (dmn bs i - 1) := iN_sub (by omega)
        obtain ⟨h1, r1, c1, t1⟩ := x_begin (d := d + 6) s (iN (dmn bs i - 1)) rfl
        have s1 := c1.sh
        have go : ∀ (w' c : Nat) (g : qH), c + w' = (cnr bs i).length → ChX [20] [(19, 1), (19, 2), (19, 3)] 0 h g → HtX g (dmn bs i - 1) (tellAll (dmn bs i - 1) [] ((shdL k (cnr bs i)).take c)) → ∃ g', (∀ R, qEv (d + 7) 0 qk_138 67 [some (.ref 16), some (.int (iN i)), some (.int (iN k)), some (.ref (sa i)), some (.int (iN c))] [] g R ↔ qEv (d + 7) 0 qk_138 98 [some (.ref 16), some (.int (iN i)), some (.int (iN k)), some (.ref (sa i)), some (.int (iN ((cnr bs i).length)))] [] g' R) ∧ ChX [20] [(19, 1), (19, 2), (19, 3)] 0 h g' ∧ HtX g' (dmn bs i - 1) (shdP bs i k) := by
          intro w'
          induction w' with
          | zero =>
            intro c g hc cg tg
            have ec : c = (cnr bs i).length := by omega
            subst ec
            have sg := cg.sh
            obtain ⟨p2, q2, w2, e2, B2, S2, P2⟩ := (X.ch s cg (by decide) (by decide) (by decide)).at hi'
            obtain ⟨⟨u16', ult', uF'⟩, g0', g1', g2', g3', g4', g5', g6'⟩ := S2.obj
            rw [List.take_of_length_le (by rw [shdL_len]; exact Nat.le_refl _)] at tg
            refine ⟨g, fun R => ?_, cg, tg⟩
            rw [e138_67]
            simp (disch := first | assumption | omega) only [e138_0, e138_1, e138_2, e138_5, e138_6, e138_7, e138_7N, e138_10, e138_13, e138_14, e138_15, e138_18, e138_19, e138_20, e138_23, e138_26, e138_27, e138_30, e138_31, e138_34, e138_37, e138_38, e138_39, e138_42, e138_44, e138_47, e138_50, e138_51, e138_52, e138_55, e138_56, e138_59, e138_60, e138_61, e138_64, e138_65, e138_69, e138_70, e138_73, e138_76, e138_77, e138_80, e138_81, e138_84, e138_86, e138_87, e138_88, e138_89, e138_92, e138_95, e138_99, e138_100, e138_103, m138, ↓reduceIte, qg_0, qg_1, qg_2, qg_3, qg_4, qg_5, qg_6, qg_7, qg_8, qg_9, qg_10, qg_11, qg_12, qg_13, not_true_eq_false, not_false_eq_true, Nat.reduceBEq, Bool.false_eq_true, ex1, ex3, ex4, exF, qfit_i, qfit_l, qfit_r, qfit_n, qfit_b0, qfit_b1, qcat_i, qcat_r, qcat_n, qcat_l, qroom_0, qroom_c, List.map_cons, List.map_nil, List.sum_cons, List.sum_nil, Nat.reduceAdd, Nat.reduceMul, Nat.reduceLT, Nat.reduceLeDiff, Nat.reduceEqDiff, Nat.reduceSub, decide_true, true_and, and_true, and_self, if_true, if_false, Option.toList_some, Option.toList_none, List.cons_append, List.nil_append, qsL, qlong, List.length_cons, List.length_nil, iN_L, exI, iN_add, iN_mul, iN_le, iN_lt, iN_eq, Nat.le_refl, qfN0, qfN1, uX_16, vX_16, uX_19, vX_19, uX_27, vX_27, uX_30, vX_30, uX_39, vX_39, uX_41, vX_41, uX_43, vX_43, uX_46, vX_46, uX_50, vX_50, uX_53, vX_53, u16', ult', uF', g0', g1', g2', g3', g4', g5', g6']
          | succ w' ih =>
            intro c g hc cg tg
            have sg := cg.sh
            obtain ⟨p2, q2, w2, e2, B2, S2, P2⟩ := (X.ch s cg (by decide) (by decide) (by decide)).at hi'
            obtain ⟨⟨u16', ult', uF'⟩, g0', g1', g2', g3', g4', g5', g6'⟩ := S2.obj
            obtain ⟨g2x, r2, c2, t2⟩ := x_tellWithout (d := d + 5) (a := k) sg (show dmn bs i - 1 < 1000 by omega) tg (S2.sp P2 (show c < (cnr bs i).length by omega)) (show c * 4 < 1000 by omega) (by omega)
            obtain ⟨g', r', z'⟩ := ih (c + 1) g2x (by omega) (cg.trans0 (c2.mono (by decide) (by decide) (Nat.le_refl _))) (by
              rw [tellAll_take (by rw [shdL_len]; omega), shdL_get (by omega)]
              have : drp k ((cnr bs i).getD c z4) = (if 0 < k then co ((cnr bs i).getD c z4) 0 else co ((cnr bs i).getD c z4) 1, if 1 < k then co ((cnr bs i).getD c z4) 1 else co ((cnr bs i).getD c z4) 2, if 2 < k then co ((cnr bs i).getD c z4) 2 else co ((cnr bs i).getD c z4) 3, 0) := by
                unfold drp
                congr 1
                · split <;> rfl
                · congr 1
                  · split <;> rfl
                  · congr 1
                    split <;> rfl
              rw [this]; exact t2)
            refine ⟨g', fun R => ?_, z'⟩
            rw [← r' R, e138_67]
            simp (disch := first | assumption | omega) only [e138_0, e138_1, e138_2, e138_5, e138_6, e138_7, e138_7N, e138_10, e138_13, e138_14, e138_15, e138_18, e138_19, e138_20, e138_23, e138_26, e138_27, e138_30, e138_31, e138_34, e138_37, e138_38, e138_39, e138_42, e138_44, e138_47, e138_50, e138_51, e138_52, e138_55, e138_56, e138_59, e138_60, e138_61, e138_64, e138_65, e138_69, e138_70, e138_73, e138_76, e138_77, e138_80, e138_81, e138_84, e138_86, e138_87, e138_88, e138_89, e138_92, e138_95, e138_99, e138_100, e138_103, m138, ↓reduceIte, qg_0, qg_1, qg_2, qg_3, qg_4, qg_5, qg_6, qg_7, qg_8, qg_9, qg_10, qg_11, qg_12, qg_13, not_true_eq_false, not_false_eq_true, Nat.reduceBEq, Bool.false_eq_true, ex1, ex3, ex4, exF, qfit_i, qfit_l, qfit_r, qfit_n, qfit_b0, qfit_b1, qcat_i, qcat_r, qcat_n, qcat_l, qroom_0, qroom_c, List.map_cons, List.map_nil, List.sum_cons, List.sum_nil, Nat.reduceAdd, Nat.reduceMul, Nat.reduceLT, Nat.reduceLeDiff, Nat.reduceEqDiff, Nat.reduceSub, decide_true, true_and, and_true, and_self, if_true, if_false, Option.toList_some, Option.toList_none, List.cons_append, List.nil_append, qsL, qlong, List.length_cons, List.length_nil, iN_L, exI, iN_add, iN_mul, iN_le, iN_lt, iN_eq, Nat.le_refl, qfN0, qfN1, uX_16, vX_16, uX_19, vX_19, uX_27, vX_27, uX_30, vX_30, uX_39, vX_39, uX_41, vX_41, uX_43, vX_43, uX_46, vX_46, uX_50, vX_50, uX_53, vX_53, u16', ult', uF', g0', g1', g2', g3', g4', g5', g6', show ¬ (cnr bs i).length ≤ c by omega, gX_16_4, r2]
        obtain ⟨h2, r2, c2, t2⟩ := go (cnr bs i).length 0 h1 (by omega) (c1.mono (by decide) (by decide) (Nat.le_refl _)) (by rw [List.take_zero]; exact t1)
        have s2 := c2.sh
        have X2 := X.ch s c2 (by decide) (by decide) (by decide)
        have ch2 : ChX bdA bdJ 0 h h2 := c2.mono (by decide) (by decide) (Nat.le_refl _)
        have ssm : smP (shdL k (cnr bs i)) := fun q hq => by
          obtain ⟨q0, h1, rfl⟩ := List.mem_map.mp hq
          exact drp_sm (P.sm q0 h1)
        obtain ⟨o1, o2⟩ := okT0 (dmn bs i - 1) (shdL k (cnr bs i)) [] (okNil _)
        have ln := tellAll_len (dmn bs i - 1) (shdL k (cnr bs i)) []
        rw [shdL_len, List.length_nil] at ln
        have sm : smP (shdP bs i k) := tell_sm ssm
        have ok : okP (shdP bs i k) (dmn bs i - 1) := ⟨sm, o1, by show (tellAll (dmn bs i - 1) [] (shdL k (cnr bs i))).length ≤ 16; omega, o2, by omega⟩
        have kv' : kepR bs (shdP bs i k) (dmn bs i - 1) (iN 1) v bs' := by
          rcases hv with ⟨z, -⟩ | ⟨-, z, -⟩ | ⟨-, -, z1, z2, z3⟩ | ⟨-, -, z1, z2, z3⟩
          · rcases z with z | z
            · exact absurd z l24
            · have := ok.2.2.1; omega
          · exact absurd sm z
          · exact Or.inl ⟨z1, z2, z3⟩
          · exact Or.inr ⟨z1, z2, z3⟩
        obtain ⟨h3, sa', r3, c3, X3⟩ := x_keepHull (d := d) (sc := iN 1) s2 X2 t2 ok (by omega) kv'
        refine ⟨h3, sa', fun R => ?_, (ch2.trans c3).mono (fun _ z => z) (fun _ z => z) (by decide), X3⟩
        have r0 : qMC (d + 8) 138 [.ref 16, .int (iN i), .int (iN k)] h R ↔ qEv (d + 7) 0 qk_138 67 [some (.ref 16), some (.int (iN i)), some (.int (iN k)), some (.ref (sa i)), some (.int (iN 0))] [] h1 R := by
          simp (disch := first | assumption | omega) only [e138_0, e138_1, e138_2, e138_5, e138_6, e138_7, e138_7N, e138_10, e138_13, e138_14, e138_15, e138_18, e138_19, e138_20, e138_23, e138_26, e138_27, e138_30, e138_31, e138_34, e138_37, e138_38, e138_39, e138_42, e138_44, e138_47, e138_50, e138_51, e138_52, e138_55, e138_56, e138_59, e138_60, e138_61, e138_64, e138_65, e138_69, e138_70, e138_73, e138_76, e138_77, e138_80, e138_81, e138_84, e138_86, e138_87, e138_88, e138_89, e138_92, e138_95, e138_98, e138_99, e138_100, e138_103, m138, ↓reduceIte, qg_0, qg_1, qg_2, qg_3, qg_4, qg_5, qg_6, qg_7, qg_8, qg_9, qg_10, qg_11, qg_12, qg_13, not_true_eq_false, not_false_eq_true, Nat.reduceBEq, Bool.false_eq_true, ex1, ex3, ex4, exF, qfit_i, qfit_l, qfit_r, qfit_n, qfit_b0, qfit_b1, qcat_i, qcat_r, qcat_n, qcat_l, qroom_0, qroom_c, List.map_cons, List.map_nil, List.sum_cons, List.sum_nil, Nat.reduceAdd, Nat.reduceMul, Nat.reduceLT, Nat.reduceLeDiff, Nat.reduceEqDiff, Nat.reduceSub, decide_true, true_and, and_true, and_self, if_true, if_false, Option.toList_some, Option.toList_none, List.cons_append, List.nil_append, qsL, qlong, List.length_cons, List.length_nil, iN_L, exI, iN_add, iN_mul, iN_le, iN_lt, iN_eq, Nat.le_refl, qfN0, qfN1, uX_16, vX_16, uX_19, vX_19, uX_27, vX_27, uX_30, vX_30, uX_39, vX_39, uX_41, vX_41, uX_43, vX_43, uX_46, vX_46, uX_50, vX_50, uX_53, vX_53, b, u16, ult, uF, g0, g1, g2, g3, g4, g5, g6, show ¬ k < 0 by omega, show ¬ dmn bs i ≤ k by omega, d2, gX_16_1, m0, show bs.length < 24 by omega, eD, gX_16_4, r1]
        rw [r0, r2 R, e138_98]
        simp (disch := first | assumption | omega) only [e138_0, e138_1, e138_2, e138_5, e138_6, e138_7, e138_7N, e138_10, e138_13, e138_14, e138_15, e138_18, e138_19, e138_20, e138_23, e138_26, e138_27, e138_30, e138_31, e138_34, e138_37, e138_38, e138_39, e138_42, e138_44, e138_47, e138_50, e138_51, e138_52, e138_55, e138_56, e138_59, e138_60, e138_61, e138_64, e138_65, e138_69, e138_70, e138_73, e138_76, e138_77, e138_80, e138_81, e138_84, e138_86, e138_87, e138_88, e138_89, e138_92, e138_95, e138_99, e138_100, e138_103, m138, ↓reduceIte, qg_0, qg_1, qg_2, qg_3, qg_4, qg_5, qg_6, qg_7, qg_8, qg_9, qg_10, qg_11, qg_12, qg_13, not_true_eq_false, not_false_eq_true, Nat.reduceBEq, Bool.false_eq_true, ex1, ex3, ex4, exF, qfit_i, qfit_l, qfit_r, qfit_n, qfit_b0, qfit_b1, qcat_i, qcat_r, qcat_n, qcat_l, qroom_0, qroom_c, List.map_cons, List.map_nil, List.sum_cons, List.sum_nil, Nat.reduceAdd, Nat.reduceMul, Nat.reduceLT, Nat.reduceLeDiff, Nat.reduceEqDiff, Nat.reduceSub, decide_true, true_and, and_true, and_self, if_true, if_false, Option.toList_some, Option.toList_none, List.cons_append, List.nil_append, qsL, qlong, List.length_cons, List.length_nil, iN_L, exI, iN_add, iN_mul, iN_le, iN_lt, iN_eq, Nat.le_refl, qfN0, qfN1, uX_16, vX_16, uX_19, vX_19, uX_27, vX_27, uX_30, vX_30, uX_39, vX_39, uX_41, vX_41, uX_43, vX_43, uX_46, vX_46, uX_50, vX_50, uX_53, vX_53, r3]
/-- points told all of which are new -/
theorem tell_new : ∀ (qs l : List pt4), (l ++ qs.map (prj D)).Nodup → tellAll D l qs = l ++ qs.map (prj D)
  | [], l, _ => by show l = l ++ []; rw [List.append_nil]
  | q :: qs, l, nd => by
    have e : l ++ (q :: qs).map (prj D) = (l ++ [prj D q]) ++ qs.map (prj D) := by simp
    rw [e] at nd ⊢
    show tellAll D (addP l (prj D q)) qs = _
    have nin : prj D q ∉ l := fun z => by
      have h1 := (List.nodup_append.mp (List.nodup_append.mp nd).1).2.2
      exact h1 _ z _ (List.mem_singleton.mpr rfl) rfl
    rw [show addP l (prj D q) = l ++ [prj D q] from if_neg nin]
    exact tell_new qs _ nd
theorem getD_inj {l : List pt4} (nd : l.Nodup) {a b : Nat} (ha : a < l.length) (hb : b < l.length) (e : l.getD a z4 = l.getD b z4) : a = b := by
  rw [lP_at ha, lP_at hb] at e
  rcases Nat.lt_trichotomy a b with z | z | z
  · exact absurd e (List.pairwise_iff_getElem.mp nd a b ha hb z)
  · exact z
  · exact absurd e.symm (List.pairwise_iff_getElem.mp nd b a hb ha z)
theorem crn_nd (ok : okP l D) : (crn l D).Nodup := by
  unfold crn
  rw [List.Nodup, List.pairwise_map]
  refine List.Pairwise.imp_of_mem ?_ (pickN_srt _ _)
  intro a b ha hb hab e
  have := getD_inj ok.2.1 (pickN_mem.mp ha).1 (pickN_mem.mp hb).1 e
  omega
theorem crn_pj (ok : okP l D) {q : pt4} (hq : q ∈ crn l D) : prj D q = q := by
  unfold crn at hq
  obtain ⟨p, hp, rfl⟩ := List.mem_map.mp hq
  have hl := (pickN_mem.mp hp).1
  rw [lP_at hl]
  exact ok.2.2.2.1 _ (List.getElem_mem hl)
theorem BsX.ok (X : BsX h bs sa) {i : Nat} (hi' : i < bs.length) : okP (bs.getD i b0).1 (dmn bs i) := (X.2.2.2 i hi').1.1
theorem prdL_nd {as cs : List pt4} (ha : as.Nodup) (hc : cs.Nodup) (pa : ∀ q, q ∈ as → prj 2 q = q) (pc : ∀ q, q ∈ cs → prj 2 q = q) : (prdL as cs).Nodup := by
  unfold prdL
  rw [List.Nodup, List.pairwise_flatMap]
  have un : ∀ {q : pt4}, prj 2 q = q → q = (q.1, q.2.1, 0, 0) := fun {q} z => by
    have : prj 2 q = (q.1, q.2.1, 0, 0) := rfl
    rw [this] at z; exact z.symm
  constructor
  · intro a _
    unfold rowP
    rw [List.pairwise_map]
    refine List.Pairwise.imp_of_mem ?_ hc
    intro x y hx hy hxy e
    apply hxy
    rw [un (pc x hx), un (pc y hy)]
    injection e with e1 e2
    injection e2 with e2 e3
    injection e3 with e3 e4
    rw [e3, e4]
  · refine List.Pairwise.imp_of_mem ?_ ha
    intro x y hx hy hxy a ha' b hb' e
    apply hxy
    obtain ⟨q1, -, rfl⟩ := List.mem_map.mp ha'
    obtain ⟨q2, -, rfl⟩ := List.mem_map.mp hb'
    rw [un (pa x hx), un (pa y hy)]
    injection e with e1 e2
    injection e2 with e2 e3
    rw [e1, e2]
theorem prj4 (q : pt4) : prj 4 q = q := rfl
set_option maxRecDepth 100000 in
set_option maxHeartbeats 16000000 in
theorem x_product {x y v : Int32} {bs' : List bdy} (s : ShX h) (X : BsX h bs sa) (hv : prdR bs x y v bs') : ∃ h' sa', (∀ R, qMC (d + 8) 140 [.ref 16, .int x, .int y] h R ↔ R = (some (.int v), h')) ∧ ChX bdA bdJ 16 h h' ∧ BsX h' bs' sa' := by
  rcases hv with ⟨hn, rfl, eb⟩ | ⟨i, j, ⟨hi', rfl⟩, ⟨hj, rfl⟩, hv⟩
  · refine ⟨h, sa, fun R => ?_, ChX.refl s, by rw [eb]; exact X⟩
    by_cases hx : isB bs x
    · have hy : ¬ isB bs y := fun hy => hn ⟨hx, hy⟩
      obtain ⟨i, hi', rfl⟩ := hx
      have b1 : ∀ R, qMC (d + 7) 179 [.ref 16, .int (iN i)] h R ↔ R = (some (.ref (sa i)), h) := fun R => x_bodyAt1 s X hi'
      have b2 : ∀ R, qMC (d + 7) 179 [.ref 16, .int y] h R ↔ R = (some .null, h) := fun R => x_bodyAt0 s X hy
      simp (disch := first | assumption | omega) only [e140_0, e140_1, e140_2, e140_5, e140_6, e140_7, e140_8, e140_11, e140_13, e140_14, e140_14N, e140_17, e140_19, e140_19N, e140_22, e140_25, e140_26, e140_27, e140_30, e140_31, e140_34, e140_36, e140_39, e140_40, e140_43, e140_46, e140_47, e140_48, e140_51, e140_53, e140_56, e140_57, e140_60, e140_62, e140_65, e140_66, e140_68, e140_71, e140_74, e140_75, e140_76, e140_79, e140_80, e140_83, e140_84, e140_86, e140_88, e140_89, e140_92, e140_95, e140_96, e140_98, e140_100, e140_102, e140_105, e140_108, e140_109, e140_112, e140_113, e140_115, e140_116, e140_119, e140_120, e140_122, e140_123, e140_126, e140_128, e140_130, e140_131, e140_134, e140_136, e140_138, e140_139, e140_142, e140_145, e140_148, e140_151, e140_154, e140_157, e140_158, e140_159, e140_162, m140, ↓reduceIte, qg_0, qg_1, qg_2, qg_3, qg_4, qg_5, qg_6, qg_7, qg_8, qg_9, qg_10, qg_11, qg_12, qg_13, not_true_eq_false, not_false_eq_true, Nat.reduceBEq, Bool.false_eq_true, ex1, ex3, ex4, exF, qfit_i, qfit_l, qfit_r, qfit_n, qfit_b0, qfit_b1, qcat_i, qcat_r, qcat_n, qcat_l, qroom_0, qroom_c, List.map_cons, List.map_nil, List.sum_cons, List.sum_nil, Nat.reduceAdd, Nat.reduceMul, Nat.reduceLT, Nat.reduceLeDiff, Nat.reduceEqDiff, Nat.reduceSub, decide_true, true_and, and_true, and_self, if_true, if_false, Option.toList_some, Option.toList_none, List.cons_append, List.nil_append, qsL, qlong, List.length_cons, List.length_nil, iN_L, exI, iN_add, iN_mul, iN_le, iN_lt, iN_eq, Nat.le_refl, qfN0, qfN1, uX_16, vX_16, uX_19, vX_19, uX_27, vX_27, uX_30, vX_30, uX_39, vX_39, uX_41, vX_41, uX_43, vX_43, uX_46, vX_46, uX_50, vX_50, uX_53, vX_53, b1, b2]
    · have b1 : ∀ R, qMC (d + 7) 179 [.ref 16, .int x] h R ↔ R = (some .null, h) := fun R => x_bodyAt0 s X hx
      by_cases hy : isB bs y
      · obtain ⟨j, hj, rfl⟩ := hy
        have b2 : ∀ R, qMC (d + 7) 179 [.ref 16, .int (iN j)] h R ↔ R = (some (.ref (sa j)), h) := fun R => x_bodyAt1 s X hj
        simp (disch := first | assumption | omega) only [e140_0, e140_1, e140_2, e140_5, e140_6, e140_7, e140_8, e140_11, e140_13, e140_14, e140_14N, e140_17, e140_19, e140_19N, e140_22, e140_25, e140_26, e140_27, e140_30, e140_31, e140_34, e140_36, e140_39, e140_40, e140_43, e140_46, e140_47, e140_48, e140_51, e140_53, e140_56, e140_57, e140_60, e140_62, e140_65, e140_66, e140_68, e140_71, e140_74, e140_75, e140_76, e140_79, e140_80, e140_83, e140_84, e140_86, e140_88, e140_89, e140_92, e140_95, e140_96, e140_98, e140_100, e140_102, e140_105, e140_108, e140_109, e140_112, e140_113, e140_115, e140_116, e140_119, e140_120, e140_122, e140_123, e140_126, e140_128, e140_130, e140_131, e140_134, e140_136, e140_138, e140_139, e140_142, e140_145, e140_148, e140_151, e140_154, e140_157, e140_158, e140_159, e140_162, m140, ↓reduceIte, qg_0, qg_1, qg_2, qg_3, qg_4, qg_5, qg_6, qg_7, qg_8, qg_9, qg_10, qg_11, qg_12, qg_13, not_true_eq_false, not_false_eq_true, Nat.reduceBEq, Bool.false_eq_true, ex1, ex3, ex4, exF, qfit_i, qfit_l, qfit_r, qfit_n, qfit_b0, qfit_b1, qcat_i, qcat_r, qcat_n, qcat_l, qroom_0, qroom_c, List.map_cons, List.map_nil, List.sum_cons, List.sum_nil, Nat.reduceAdd, Nat.reduceMul, Nat.reduceLT, Nat.reduceLeDiff, Nat.reduceEqDiff, Nat.reduceSub, decide_true, true_and, and_true, and_self, if_true, if_false, Option.toList_some, Option.toList_none, List.cons_append, List.nil_append, qsL, qlong, List.length_cons, List.length_nil, iN_L, exI, iN_add, iN_mul, iN_le, iN_lt, iN_eq, Nat.le_refl, qfN0, qfN1, uX_16, vX_16, uX_19, vX_19, uX_27, vX_27, uX_30, vX_30, uX_39, vX_39, uX_41, vX_41, uX_43, vX_43, uX_46, vX_46, uX_50, vX_50, uX_53, vX_53, b1, b2]
      · have b2 : ∀ R, qMC (d + 7) 179 [.ref 16, .int y] h R ↔ R = (some .null, h) := fun R => x_bodyAt0 s X hy
        simp (disch := first | assumption | omega) only [e140_0, e140_1, e140_2, e140_5, e140_6, e140_7, e140_8, e140_11, e140_13, e140_14, e140_14N, e140_17, e140_19, e140_19N, e140_22, e140_25, e140_26, e140_27, e140_30, e140_31, e140_34, e140_36, e140_39, e140_40, e140_43, e140_46, e140_47, e140_48, e140_51, e140_53, e140_56, e140_57, e140_60, e140_62, e140_65, e140_66, e140_68, e140_71, e140_74, e140_75, e140_76, e140_79, e140_80, e140_83, e140_84, e140_86, e140_88, e140_89, e140_92, e140_95, e140_96, e140_98, e140_100, e140_102, e140_105, e140_108, e140_109, e140_112, e140_113, e140_115, e140_116, e140_119, e140_120, e140_122, e140_123, e140_126, e140_128, e140_130, e140_131, e140_134, e140_136, e140_138, e140_139, e140_142, e140_145, e140_148, e140_151, e140_154, e140_157, e140_158, e140_159, e140_162, m140, ↓reduceIte, qg_0, qg_1, qg_2, qg_3, qg_4, qg_5, qg_6, qg_7, qg_8, qg_9, qg_10, qg_11, qg_12, qg_13, not_true_eq_false, not_false_eq_true, Nat.reduceBEq, Bool.false_eq_true, ex1, ex3, ex4, exF, qfit_i, qfit_l, qfit_r, qfit_n, qfit_b0, qfit_b1, qcat_i, qcat_r, qcat_n, qcat_l, qroom_0, qroom_c, List.map_cons, List.map_nil, List.sum_cons, List.sum_nil, Nat.reduceAdd, Nat.reduceMul, Nat.reduceLT, Nat.reduceLeDiff, Nat.reduceEqDiff, Nat.reduceSub, decide_true, true_and, and_true, and_self, if_true, if_false, Option.toList_some, Option.toList_none, List.cons_append, List.nil_append, qsL, qlong, List.length_cons, List.length_nil, iN_L, exI, iN_add, iN_mul, iN_le, iN_lt, iN_eq, Nat.le_refl, qfN0, qfN1, uX_16, vX_16, uX_19, vX_19, uX_27, vX_27, uX_30, vX_30, uX_39, vX_39, uX_41, vX_41, uX_43, vX_43, uX_46, vX_46, uX_50, vX_50, uX_53, vX_53, b1, b2]
  · have b1 : ∀ R, qMC (d + 7) 179 [.ref 16, .int (iN i)] h R ↔ R = (some (.ref (sa i)), h) := fun R => x_bodyAt1 s X hi'
    have b2 : ∀ R, qMC (d + 7) 179 [.ref 16, .int (iN j)] h R ↔ R = (some (.ref (sa j)), h) := fun R => x_bodyAt1 s X hj
    obtain ⟨p, q, w, e, B, S, P⟩ := X.at hi'
    obtain ⟨⟨u16, ult, uF⟩, g0, g1, g2, g3, g4, g5, g6⟩ := S.obj
    obtain ⟨p', q', w', e', B', S', P'⟩ := X.at hj
    obtain ⟨⟨u16', ult', uF'⟩, g0', g1', g2', g3', g4', g5', g6'⟩ := S'.obj
    have hD := P.1
    have hD' := P'.1
    have ni := P.2.1.2
    have nj := P'.2.1.2
    have m0 := X.2.1
    have b24 := X.1
    rcases hv with ⟨ne, rfl, eb⟩ | ⟨⟨d1, d2⟩, hv⟩
    · refine ⟨h, sa, fun R => ?_, ChX.refl s, by rw [eb]; exact X⟩
      by_cases z : dmn bs i = 2
      · have z2 : ¬ dmn bs j = 2 := fun y => ne ⟨z, y⟩
        simp (disch := first | assumption | omega) only [e140_0, e140_1, e140_2, e140_5, e140_6, e140_7, e140_8, e140_11, e140_13, e140_14, e140_14N, e140_17, e140_19, e140_19N, e140_22, e140_25, e140_26, e140_27, e140_30, e140_31, e140_34, e140_36, e140_39, e140_40, e140_43, e140_46, e140_47, e140_48, e140_51, e140_53, e140_56, e140_57, e140_60, e140_62, e140_65, e140_66, e140_68, e140_71, e140_74, e140_75, e140_76, e140_79, e140_80, e140_83, e140_84, e140_86, e140_88, e140_89, e140_92, e140_95, e140_96, e140_98, e140_100, e140_102, e140_105, e140_108, e140_109, e140_112, e140_113, e140_115, e140_116, e140_119, e140_120, e140_122, e140_123, e140_126, e140_128, e140_130, e140_131, e140_134, e140_136, e140_138, e140_139, e140_142, e140_145, e140_148, e140_151, e140_154, e140_157, e140_158, e140_159, e140_162, m140, ↓reduceIte, qg_0, qg_1, qg_2, qg_3, qg_4, qg_5, qg_6, qg_7, qg_8, qg_9, qg_10, qg_11, qg_12, qg_13, not_true_eq_false, not_false_eq_true, Nat.reduceBEq, Bool.false_eq_true, ex1, ex3, ex4, exF, qfit_i, qfit_l, qfit_r, qfit_n, qfit_b0, qfit_b1, qcat_i, qcat_r, qcat_n, qcat_l, qroom_0, qroom_c, List.map_cons, List.map_nil, List.sum_cons, List.sum_nil, Nat.reduceAdd, Nat.reduceMul, Nat.reduceLT, Nat.reduceLeDiff, Nat.reduceEqDiff, Nat.reduceSub, decide_true, true_and, and_true, and_self, if_true, if_false, Option.toList_some, Option.toList_none, List.cons_append, List.nil_append, qsL, qlong, List.length_cons, List.length_nil, iN_L, exI, iN_add, iN_mul, iN_le, iN_lt, iN_eq, Nat.le_refl, qfN0, qfN1, uX_16, vX_16, uX_19, vX_19, uX_27, vX_27, uX_30, vX_30, uX_39, vX_39, uX_41, vX_41, uX_43, vX_43, uX_46, vX_46, uX_50, vX_50, uX_53, vX_53, b1, b2, u16, ult, uF, g0, g1, g2, g3, g4, g5, g6, u16', ult', uF', g0', g1', g2', g3', g4', g5', g6', z, z2]
      · simp (disch := first | assumption | omega) only [e140_0, e140_1, e140_2, e140_5, e140_6, e140_7, e140_8, e140_11, e140_13, e140_14, e140_14N, e140_17, e140_19, e140_19N, e140_22, e140_25, e140_26, e140_27, e140_30, e140_31, e140_34, e140_36, e140_39, e140_40, e140_43, e140_46, e140_47, e140_48, e140_51, e140_53, e140_56, e140_57, e140_60, e140_62, e140_65, e140_66, e140_68, e140_71, e140_74, e140_75, e140_76, e140_79, e140_80, e140_83, e140_84, e140_86, e140_88, e140_89, e140_92, e140_95, e140_96, e140_98, e140_100, e140_102, e140_105, e140_108, e140_109, e140_112, e140_113, e140_115, e140_116, e140_119, e140_120, e140_122, e140_123, e140_126, e140_128, e140_130, e140_131, e140_134, e140_136, e140_138, e140_139, e140_142, e140_145, e140_148, e140_151, e140_154, e140_157, e140_158, e140_159, e140_162, m140, ↓reduceIte, qg_0, qg_1, qg_2, qg_3, qg_4, qg_5, qg_6, qg_7, qg_8, qg_9, qg_10, qg_11, qg_12, qg_13, not_true_eq_false, not_false_eq_true, Nat.reduceBEq, Bool.false_eq_true, ex1, ex3, ex4, exF, qfit_i, qfit_l, qfit_r, qfit_n, qfit_b0, qfit_b1, qcat_i, qcat_r, qcat_n, qcat_l, qroom_0, qroom_c, List.map_cons, List.map_nil, List.sum_cons, List.sum_nil, Nat.reduceAdd, Nat.reduceMul, Nat.reduceLT, Nat.reduceLeDiff, Nat.reduceEqDiff, Nat.reduceSub, decide_true, true_and, and_true, and_self, if_true, if_false, Option.toList_some, Option.toList_none, List.cons_append, List.nil_append, qsL, qlong, List.length_cons, List.length_nil, iN_L, exI, iN_add, iN_mul, iN_le, iN_lt, iN_eq, Nat.le_refl, qfN0, qfN1, uX_16, vX_16, uX_19, vX_19, uX_27, vX_27, uX_30, vX_30, uX_39, vX_39, uX_41, vX_41, uX_43, vX_43, uX_46, vX_46, uX_50, vX_50, uX_53, vX_53, b1, b2, u16, ult, uF, g0, g1, g2, g3, g4, g5, g6, u16', ult', uF', g0', g1', g2', g3', g4', g5', g6', z]
    · have oki := X.ok hi'
      have okj := X.ok hj
      rw [d1] at oki
      rw [d2] at okj
      have ci : cnr bs i = crn (bs.getD i b0).1 2 := by unfold cnr; show crn _ (dmn bs i) = _; rw [d1]
      have cj : cnr bs j = crn (bs.getD j b0).1 2 := by unfold cnr; show crn _ (dmn bs j) = _; rw [d2]
      have nd := prdL_nd (crn_nd oki) (crn_nd okj) (fun q hq => crn_pj oki hq) (fun q hq => crn_pj okj hq)
      rw [← ci, ← cj] at nd
      have eP : prdP bs i j = prdL (cnr bs i) (cnr bs j) := by
        show tellAll 4 [] (prdL (cnr bs i) (cnr bs j)) = _
        have m : (prdL (cnr bs i) (cnr bs j)).map (prj 4) = prdL (cnr bs i) (cnr bs j) := by rw [show prj 4 = id from rfl, List.map_id]
        rw [tell_new _ _ (by rw [List.nil_append, m]; exact nd), List.nil_append, m]
      have lP' : (prdP bs i j).length = (cnr bs i).length * (cnr bs j).length := by rw [eP, prdL_len]
      have ml : (cnr bs i).length * (cnr bs j).length ≤ 16 * 16 := Nat.mul_le_mul ni nj
      by_cases full : bs.length = 24 ∨ 16 < (cnr bs i).length * (cnr bs j).length
      · rcases hv with ⟨-, rfl, eb⟩ | ⟨⟨z1, z2⟩, -⟩ | ⟨⟨z1, z2⟩, -⟩ | ⟨⟨z1, z2⟩, -⟩
        · refine ⟨h, sa, fun R => ?_, ChX.refl s, by rw [eb]; exact X⟩
          by_cases z : bs.length = 24
          · simp (disch := first | assumption | omega) only [e140_0, e140_1, e140_2, e140_5, e140_6, e140_7, e140_8, e140_11, e140_13, e140_14, e140_14N, e140_17, e140_19, e140_19N, e140_22, e140_25, e140_26, e140_27, e140_30, e140_31, e140_34, e140_36, e140_39, e140_40, e140_43, e140_46, e140_47, e140_48, e140_51, e140_53, e140_56, e140_57, e140_60, e140_62, e140_65, e140_66, e140_68, e140_71, e140_74, e140_75, e140_76, e140_79, e140_80, e140_83, e140_84, e140_86, e140_88, e140_89, e140_92, e140_95, e140_96, e140_98, e140_100, e140_102, e140_105, e140_108, e140_109, e140_112, e140_113, e140_115, e140_116, e140_119, e140_120, e140_122, e140_123, e140_126, e140_128, e140_130, e140_131, e140_134, e140_136, e140_138, e140_139, e140_142, e140_145, e140_148, e140_151, e140_154, e140_157, e140_158, e140_159, e140_162, m140, ↓reduceIte, qg_0, qg_1, qg_2, qg_3, qg_4, qg_5, qg_6, qg_7, qg_8, qg_9, qg_10, qg_11, qg_12, qg_13, not_true_eq_false, not_false_eq_true, Nat.reduceBEq, Bool.false_eq_true, ex1, ex3, ex4, exF, qfit_i, qfit_l, qfit_r, qfit_n, qfit_b0, qfit_b1, qcat_i, qcat_r, qcat_n, qcat_l, qroom_0, qroom_c, List.map_cons, List.map_nil, List.sum_cons, List.sum_nil, Nat.reduceAdd, Nat.reduceMul, Nat.reduceLT, Nat.reduceLeDiff, Nat.reduceEqDiff, Nat.reduceSub, decide_true, true_and, and_true, and_self, if_true, if_false, Option.toList_some, Option.toList_none, List.cons_append, List.nil_append, qsL, qlong, List.length_cons, List.length_nil, iN_L, exI, iN_add, iN_mul, iN_le, iN_lt, iN_eq, Nat.le_refl, qfN0, qfN1, uX_16, vX_16, uX_19, vX_19, uX_27, vX_27, uX_30, vX_30, uX_39, vX_39, uX_41, vX_41, uX_43, vX_43, uX_46, vX_46, uX_50, vX_50, uX_53, vX_53, b1, b2, u16, ult, uF, g0, g1, g2, g3, g4, g5, g6, u16', ult', uF', g0', g1', g2', g3', g4', g5', g6', d1, d2, gX_16_1, m0, z]
          · have gt : ¬ (cnr bs i).length * (cnr bs j).length ≤ 16 := by have := full.resolve_left z; omega
            simp (disch := first | assumption | omega) only [e140_0, e140_1, e140_2, e140_5, e140_6, e140_7, e140_8, e140_11, e140_13, e140_14, e140_14N, e140_17, e140_19, e140_19N, e140_22, e140_25, e140_26, e140_27, e140_30, e140_31, e140_34, e140_36, e140_39, e140_40, e140_43, e140_46, e140_47, e140_48, e140_51, e140_53, e140_56, e140_57, e140_60, e140_62, e140_65, e140_66, e140_68, e140_71, e140_74, e140_75, e140_76, e140_79, e140_80, e140_83, e140_84, e140_86, e140_88, e140_89, e140_92, e140_95, e140_96, e140_98, e140_100, e140_102, e140_105, e140_108, e140_109, e140_112, e140_113, e140_115, e140_116, e140_119, e140_120, e140_122, e140_123, e140_126, e140_128, e140_130, e140_131, e140_134, e140_136, e140_138, e140_139, e140_142, e140_145, e140_148, e140_151, e140_154, e140_157, e140_158, e140_159, e140_162, m140, ↓reduceIte, qg_0, qg_1, qg_2, qg_3, qg_4, qg_5, qg_6, qg_7, qg_8, qg_9, qg_10, qg_11, qg_12, qg_13, not_true_eq_false, not_false_eq_true, Nat.reduceBEq, Bool.false_eq_true, ex1, ex3, ex4, exF, qfit_i, qfit_l, qfit_r, qfit_n, qfit_b0, qfit_b1, qcat_i, qcat_r, qcat_n, qcat_l, qroom_0, qroom_c, List.map_cons, List.map_nil, List.sum_cons, List.sum_nil, Nat.reduceAdd, Nat.reduceMul, Nat.reduceLT, Nat.reduceLeDiff, Nat.reduceEqDiff, Nat.reduceSub, decide_true, true_and, and_true, and_self, if_true, if_false, Option.toList_some, Option.toList_none, List.cons_append, List.nil_append, qsL, qlong, List.length_cons, List.length_nil, iN_L, exI, iN_add, iN_mul, iN_le, iN_lt, iN_eq, Nat.le_refl, qfN0, qfN1, uX_16, vX_16, uX_19, vX_19, uX_27, vX_27, uX_30, vX_30, uX_39, vX_39, uX_41, vX_41, uX_43, vX_43, uX_46, vX_46, uX_50, vX_50, uX_53, vX_53, b1, b2, u16, ult, uF, g0, g1, g2, g3, g4, g5, g6, u16', ult', uF', g0', g1', g2', g3', g4', g5', g6', d1, d2, gX_16_1, m0, show ¬ 24 ≤ bs.length by omega, gt]
        all_goals (rw [lP'] at z2; omega)
      · have lt1 : ¬ 24 ≤ bs.length := by omega
        have lt2 : (cnr bs i).length * (cnr bs j).length ≤ 16 := by omega
        obtain ⟨h1, r1, c1, t1⟩ := x_begin (d := d + 6) s (iN 4) rfl
        have s1 := c1.sh
        obtain ⟨ni', eni⟩ : ∃ n, n = (cnr bs i).length := ⟨_, rfl⟩
        obtain ⟨nj', enj⟩ : ∃ n, n = (cnr bs j).length := ⟨_, rfl⟩
        have inner : ∀ (c w2 e2 : Nat) (g : qH), c < ni' → e2 + w2 = nj' → ChX [20] [(19, 1), (19, 2), (19, 3)] 0 h g → HtX g 4 (tellAll 4 (tellAll 4 [] (prdL ((cnr bs i).take c) (cnr bs j))) ((rowP ((cnr bs i).getD c z4) (cnr bs j)).take e2)) → ∃ g', (∀ R, qEv (d + 7) 0 qk_140 98 [some (.ref 16), some (.int (iN i)), some (.int (iN j)), some (.ref (sa i)), some (.ref (sa j)), some (.int (iN c)), some (.int (iN e2))] [] g R ↔ qEv (d + 7) 0 qk_140 86 [some (.ref 16), some (.int (iN i)), some (.int (iN j)), some (.ref (sa i)), some (.ref (sa j)), some (.int (iN (c + 1))), some (.int (iN nj'))] [] g' R) ∧ ChX [20] [(19, 1), (19, 2), (19, 3)] 0 h g' ∧ HtX g' 4 (tellAll 4 [] (prdL ((cnr bs i).take (c + 1)) (cnr bs j))) := by
          intro c w2
          induction w2 with
          | zero =>
            intro e2 g hc he cg tg
            have ee : e2 = nj' := by omega
            subst ee
            have sg := cg.sh
            obtain ⟨q1, q2, q3, q4, q5, S2, P2⟩ := (X.ch s cg (by decide) (by decide) (by decide)).at hj
            obtain ⟨⟨u16', ult', uF'⟩, g0', g1', g2', g3', g4', g5', g6'⟩ := S2.obj
            rw [← enj] at g1'
            have tk : (rowP ((cnr bs i).getD c z4) (cnr bs j)).take e2 = rowP ((cnr bs i).getD c z4) (cnr bs j) := List.take_of_length_le (by rw [rowP_len]; omega)
            rw [tk, ← tellAll_app, ← prdL_take (by omega)] at tg
            refine ⟨g, fun R => ?_, cg, tg⟩
            rw [e140_98]
            simp (disch := first | assumption | omega) only [e140_0, e140_1, e140_2, e140_5, e140_6, e140_7, e140_8, e140_11, e140_13, e140_14, e140_14N, e140_17, e140_19, e140_19N, e140_22, e140_25, e140_26, e140_27, e140_30, e140_31, e140_34, e140_36, e140_39, e140_40, e140_43, e140_46, e140_47, e140_48, e140_51, e140_53, e140_56, e140_57, e140_60, e140_62, e140_65, e140_66, e140_68, e140_71, e140_74, e140_75, e140_76, e140_79, e140_80, e140_83, e140_84, e140_88, e140_89, e140_92, e140_95, e140_96, e140_100, e140_102, e140_105, e140_108, e140_109, e140_112, e140_113, e140_115, e140_116, e140_119, e140_120, e140_122, e140_123, e140_126, e140_128, e140_130, e140_131, e140_134, e140_136, e140_138, e140_139, e140_142, e140_145, e140_148, e140_151, e140_154, e140_157, e140_158, e140_159, e140_162, m140, ↓reduceIte, qg_0, qg_1, qg_2, qg_3, qg_4, qg_5, qg_6, qg_7, qg_8, qg_9, qg_10, qg_11, qg_12, qg_13, not_true_eq_false, not_false_eq_true, Nat.reduceBEq, Bool.false_eq_true, ex1, ex3, ex4, exF, qfit_i, qfit_l, qfit_r, qfit_n, qfit_b0, qfit_b1, qcat_i, qcat_r, qcat_n, qcat_l, qroom_0, qroom_c, List.map_cons, List.map_nil, List.sum_cons, List.sum_nil, Nat.reduceAdd, Nat.reduceMul, Nat.reduceLT, Nat.reduceLeDiff, Nat.reduceEqDiff, Nat.reduceSub, decide_true, true_and, and_true, and_self, if_true, if_false, Option.toList_some, Option.toList_none, List.cons_append, List.nil_append, qsL, qlong, List.length_cons, List.length_nil, iN_L, exI, iN_add, iN_mul, iN_le, iN_lt, iN_eq, Nat.le_refl, qfN0, qfN1, uX_16, vX_16, uX_19, vX_19, uX_27, vX_27, uX_30, vX_30, uX_39, vX_39, uX_41, vX_41, uX_43, vX_43, uX_46, vX_46, uX_50, vX_50, uX_53, vX_53, u16', ult', uF', g0', g1', g2', g3', g4', g5', g6']
          | succ w2 ih =>
            intro e2 g hc he cg tg
            have sg := cg.sh
            have Xg := X.ch s cg (by decide) (by decide) (by decide)
            obtain ⟨q1, q2, q3, q4, q5, S1, P1⟩ := Xg.at hi'
            obtain ⟨⟨u16, ult, uF⟩, g0, g1, g2, g3, g4, g5, g6⟩ := S1.obj
            obtain ⟨q1', q2', q3', q4', q5', S2, P2⟩ := Xg.at hj
            obtain ⟨⟨u16', ult', uF'⟩, g0', g1', g2', g3', g4', g5', g6'⟩ := S2.obj
            rw [← enj] at g1'
            have a1 : ∀ R, qMC (d + 7) 104 [.ref (sa i), .int (iN c), .int (iN 0)] g R ↔ R = (some (.int (iZ (lP (cnr bs i) c 0))), g) := fun R => x_at S1 (by omega) (by decide)
            have a2 : ∀ R, qMC (d + 7) 104 [.ref (sa i), .int (iN c), .int (iN 1)] g R ↔ R = (some (.int (iZ (lP (cnr bs i) c 1))), g) := fun R => x_at S1 (by omega) (by decide)
            have a3 : ∀ R, qMC (d + 7) 104 [.ref (sa j), .int (iN e2), .int (iN 0)] g R ↔ R = (some (.int (iZ (lP (cnr bs j) e2 0))), g) := fun R => x_at S2 (by omega) (by decide)
            have a4 : ∀ R, qMC (d + 7) 104 [.ref (sa j), .int (iN e2), .int (iN 1)] g R ↔ R = (some (.int (iZ (lP (cnr bs j) e2 1))), g) := fun R => x_at S2 (by omega) (by decide)
            obtain ⟨g2x, r2, c2, t2⟩ := x_tell (d := d + 6) (q := (lP (cnr bs i) c 0, lP (cnr bs i) c 1, lP (cnr bs j) e2 0, lP (cnr bs j) e2 1)) sg (by decide) tg (fun k hk => by
              have w0 := P1.2.2.1 c (by omega) 0 (by decide)
              have w1 := P1.2.2.1 c (by omega) 1 (by decide)
              have w2 := P2.2.2.1 e2 (by omega) 0 (by decide)
              have w3 := P2.2.2.1 e2 (by omega) 1 (by decide)
              match k, hk with
              | 0, _ => exact sm_iB w0
              | 1, _ => exact sm_iB w1
              | 2, _ => exact sm_iB w2
              | 3, _ => exact sm_iB w3)
            have r2' : ∀ R, qMC (d + 7) 14 [.ref 19, .int (iZ (lP (cnr bs i) c 0)), .int (iZ (lP (cnr bs i) c 1)), .int (iZ (lP (cnr bs j) e2 0)), .int (iZ (lP (cnr bs j) e2 1))] g R ↔ R = (none, g2x) := r2
            obtain ⟨g', r', z'⟩ := ih (e2 + 1) g2x hc (by omega) (cg.trans0 (c2.mono (by decide) (by decide) (Nat.le_refl _))) (by
              rw [tellAll_take (by rw [rowP_len]; omega), rowP_get (by omega)]; exact t2)
            refine ⟨g', fun R => ?_, z'⟩
            rw [← r' R, e140_98]
            simp (disch := first | assumption | omega) only [e140_0, e140_1, e140_2, e140_5, e140_6, e140_7, e140_8, e140_11, e140_13, e140_14, e140_14N, e140_17, e140_19, e140_19N, e140_22, e140_25, e140_26, e140_27, e140_30, e140_31, e140_34, e140_36, e140_39, e140_40, e140_43, e140_46, e140_47, e140_48, e140_51, e140_53, e140_56, e140_57, e140_60, e140_62, e140_65, e140_66, e140_68, e140_71, e140_74, e140_75, e140_76, e140_79, e140_80, e140_83, e140_84, e140_88, e140_89, e140_92, e140_95, e140_96, e140_100, e140_102, e140_105, e140_108, e140_109, e140_112, e140_113, e140_115, e140_116, e140_119, e140_120, e140_122, e140_123, e140_126, e140_128, e140_130, e140_131, e140_134, e140_136, e140_138, e140_139, e140_142, e140_145, e140_148, e140_151, e140_154, e140_157, e140_158, e140_159, e140_162, m140, ↓reduceIte, qg_0, qg_1, qg_2, qg_3, qg_4, qg_5, qg_6, qg_7, qg_8, qg_9, qg_10, qg_11, qg_12, qg_13, not_true_eq_false, not_false_eq_true, Nat.reduceBEq, Bool.false_eq_true, ex1, ex3, ex4, exF, qfit_i, qfit_l, qfit_r, qfit_n, qfit_b0, qfit_b1, qcat_i, qcat_r, qcat_n, qcat_l, qroom_0, qroom_c, List.map_cons, List.map_nil, List.sum_cons, List.sum_nil, Nat.reduceAdd, Nat.reduceMul, Nat.reduceLT, Nat.reduceLeDiff, Nat.reduceEqDiff, Nat.reduceSub, decide_true, true_and, and_true, and_self, if_true, if_false, Option.toList_some, Option.toList_none, List.cons_append, List.nil_append, qsL, qlong, List.length_cons, List.length_nil, iN_L, exI, iN_add, iN_mul, iN_le, iN_lt, iN_eq, Nat.le_refl, qfN0, qfN1, uX_16, vX_16, uX_19, vX_19, uX_27, vX_27, uX_30, vX_30, uX_39, vX_39, uX_41, vX_41, uX_43, vX_43, uX_46, vX_46, uX_50, vX_50, uX_53, vX_53, u16, ult, uF, g0, g1, g2, g3, g4, g5, g6, u16', ult', uF', g0', g1', g2', g3', g4', g5', g6', show ¬ nj' ≤ e2 by omega, gX_16_4, a1, a2, a3, a4, r2']
        have outer : ∀ (w2 c : Nat) (g : qH) (x6 : Option Value), c + w2 = ni' → ChX [20] [(19, 1), (19, 2), (19, 3)] 0 h g → HtX g 4 (tellAll 4 [] (prdL ((cnr bs i).take c) (cnr bs j))) → ∃ g' x6', (∀ R, qEv (d + 7) 0 qk_140 86 [some (.ref 16), some (.int (iN i)), some (.int (iN j)), some (.ref (sa i)), some (.ref (sa j)), some (.int (iN c)), x6] [] g R ↔ qEv (d + 7) 0 qk_140 157 [some (.ref 16), some (.int (iN i)), some (.int (iN j)), some (.ref (sa i)), some (.ref (sa j)), some (.int (iN ni')), x6'] [] g' R) ∧ ChX [20] [(19, 1), (19, 2), (19, 3)] 0 h g' ∧ HtX g' 4 (prdP bs i j) := by
          intro w2
          induction w2 with
          | zero =>
            intro c g x6 hc cg tg
            have ec : c = ni' := by omega
            subst ec
            have sg := cg.sh
            obtain ⟨q1, q2, q3, q4, q5, S1, P1⟩ := (X.ch s cg (by decide) (by decide) (by decide)).at hi'
            obtain ⟨⟨u16, ult, uF⟩, g0, g1, g2, g3, g4, g5, g6⟩ := S1.obj
            rw [← eni] at g1
            rw [List.take_of_length_le (by omega)] at tg
            refine ⟨g, x6, fun R => ?_, cg, tg⟩
            rw [e140_86]
            simp (disch := first | assumption | omega) only [e140_0, e140_1, e140_2, e140_5, e140_6, e140_7, e140_8, e140_11, e140_13, e140_14, e140_14N, e140_17, e140_19, e140_19N, e140_22, e140_25, e140_26, e140_27, e140_30, e140_31, e140_34, e140_36, e140_39, e140_40, e140_43, e140_46, e140_47, e140_48, e140_51, e140_53, e140_56, e140_57, e140_60, e140_62, e140_65, e140_66, e140_68, e140_71, e140_74, e140_75, e140_76, e140_79, e140_80, e140_83, e140_84, e140_88, e140_89, e140_92, e140_95, e140_96, e140_100, e140_102, e140_105, e140_108, e140_109, e140_112, e140_113, e140_115, e140_116, e140_119, e140_120, e140_122, e140_123, e140_126, e140_128, e140_130, e140_131, e140_134, e140_136, e140_138, e140_139, e140_142, e140_145, e140_148, e140_151, e140_154, e140_158, e140_159, e140_162, m140, ↓reduceIte, qg_0, qg_1, qg_2, qg_3, qg_4, qg_5, qg_6, qg_7, qg_8, qg_9, qg_10, qg_11, qg_12, qg_13, not_true_eq_false, not_false_eq_true, Nat.reduceBEq, Bool.false_eq_true, ex1, ex3, ex4, exF, qfit_i, qfit_l, qfit_r, qfit_n, qfit_b0, qfit_b1, qcat_i, qcat_r, qcat_n, qcat_l, qroom_0, qroom_c, List.map_cons, List.map_nil, List.sum_cons, List.sum_nil, Nat.reduceAdd, Nat.reduceMul, Nat.reduceLT, Nat.reduceLeDiff, Nat.reduceEqDiff, Nat.reduceSub, decide_true, true_and, and_true, and_self, if_true, if_false, Option.toList_some, Option.toList_none, List.cons_append, List.nil_append, qsL, qlong, List.length_cons, List.length_nil, iN_L, exI, iN_add, iN_mul, iN_le, iN_lt, iN_eq, Nat.le_refl, qfN0, qfN1, uX_16, vX_16, uX_19, vX_19, uX_27, vX_27, uX_30, vX_30, uX_39, vX_39, uX_41, vX_41, uX_43, vX_43, uX_46, vX_46, uX_50, vX_50, uX_53, vX_53, u16, ult, uF, g0, g1, g2, g3, g4, g5, g6]
          | succ w2 ih =>
            intro c g x6 hc cg tg
            have sg := cg.sh
            obtain ⟨q1, q2, q3, q4, q5, S1, P1⟩ := (X.ch s cg (by decide) (by decide) (by decide)).at hi'
            obtain ⟨⟨u16, ult, uF⟩, g0, g1, g2, g3, g4, g5, g6⟩ := S1.obj
            rw [← eni] at g1
            obtain ⟨g2x, r2, c2, t2⟩ := inner c nj' 0 g (by omega) (by omega) cg (by rw [List.take_zero]; exact tg)
            obtain ⟨g', x6', r', z'⟩ := ih (c + 1) g2x (some (.int (iN nj'))) (by omega) c2 t2
            refine ⟨g', x6', fun R => ?_, z'⟩
            rw [← r' R, ← r2 R, e140_86]
            simp (disch := first | assumption | omega) only [e140_0, e140_1, e140_2, e140_5, e140_6, e140_7, e140_8, e140_11, e140_13, e140_14, e140_14N, e140_17, e140_19, e140_19N, e140_22, e140_25, e140_26, e140_27, e140_30, e140_31, e140_34, e140_36, e140_39, e140_40, e140_43, e140_46, e140_47, e140_48, e140_51, e140_53, e140_56, e140_57, e140_60, e140_62, e140_65, e140_66, e140_68, e140_71, e140_74, e140_75, e140_76, e140_79, e140_80, e140_83, e140_84, e140_88, e140_89, e140_92, e140_95, e140_96, e140_100, e140_102, e140_105, e140_108, e140_109, e140_112, e140_113, e140_115, e140_116, e140_119, e140_120, e140_122, e140_123, e140_126, e140_128, e140_130, e140_131, e140_134, e140_136, e140_138, e140_139, e140_142, e140_145, e140_148, e140_151, e140_154, e140_158, e140_159, e140_162, m140, ↓reduceIte, qg_0, qg_1, qg_2, qg_3, qg_4, qg_5, qg_6, qg_7, qg_8, qg_9, qg_10, qg_11, qg_12, qg_13, not_true_eq_false, not_false_eq_true, Nat.reduceBEq, Bool.false_eq_true, ex1, ex3, ex4, exF, qfit_i, qfit_l, qfit_r, qfit_n, qfit_b0, qfit_b1, qcat_i, qcat_r, qcat_n, qcat_l, qroom_0, qroom_c, List.map_cons, List.map_nil, List.sum_cons, List.sum_nil, Nat.reduceAdd, Nat.reduceMul, Nat.reduceLT, Nat.reduceLeDiff, Nat.reduceEqDiff, Nat.reduceSub, decide_true, true_and, and_true, and_self, if_true, if_false, Option.toList_some, Option.toList_none, List.cons_append, List.nil_append, qsL, qlong, List.length_cons, List.length_nil, iN_L, exI, iN_add, iN_mul, iN_le, iN_lt, iN_eq, Nat.le_refl, qfN0, qfN1, uX_16, vX_16, uX_19, vX_19, uX_27, vX_27, uX_30, vX_30, uX_39, vX_39, uX_41, vX_41, uX_43, vX_43, uX_46, vX_46, uX_50, vX_50, uX_53, vX_53, u16, ult, uF, g0, g1, g2, g3, g4, g5, g6, show ¬ ni' ≤ c by omega]
        obtain ⟨h2, x6, r2, c2, t2⟩ := outer ni' 0 h1 none (by omega) (c1.mono (by decide) (by decide) (Nat.le_refl _)) (by rw [List.take_zero]; exact t1)
        have s2 := c2.sh
        have X2 := X.ch s c2 (by decide) (by decide) (by decide)
        have ch2 : ChX bdA bdJ 0 h h2 := c2.mono (by decide) (by decide) (Nat.le_refl _)
        have psm : smP (prdL (cnr bs i) (cnr bs j)) := fun q hq => by
          unfold prdL at hq
          obtain ⟨a, ha, hq⟩ := List.mem_flatMap.mp hq
          obtain ⟨b, hb, rfl⟩ := List.mem_map.mp hq
          intro t ht
          match t, ht with
          | 0, _ => exact P.sm a ha 0 (by decide)
          | 1, _ => exact P.sm a ha 1 (by decide)
          | 2, _ => exact P'.sm b hb 0 (by decide)
          | 3, _ => exact P'.sm b hb 1 (by decide)
        have sm : smP (prdP bs i j) := by rw [eP]; exact psm
        have ok : okP (prdP bs i j) 4 := ⟨sm, by rw [eP]; exact nd, by omega, fun q _ => rfl, by decide⟩
        have kv' : kepR bs (prdP bs i j) 4 (iN 1) v bs' := by
          rcases hv with ⟨z, -⟩ | ⟨-, z, -⟩ | ⟨-, -, z1, z2, z3⟩ | ⟨-, -, z1, z2, z3⟩
          · omega
          · exact absurd sm z
          · exact Or.inl ⟨z1, z2, z3⟩
          · exact Or.inr ⟨z1, z2, z3⟩
        obtain ⟨h3, sa', r3, c3, X3⟩ := x_keepHull (d := d) (sc := iN 1) s2 X2 t2 ok (by omega) kv'
        refine ⟨h3, sa', fun R => ?_, (ch2.trans c3).mono (fun _ z => z) (fun _ z => z) (by decide), X3⟩
        have r0 : qMC (d + 8) 140 [.ref 16, .int (iN i), .int (iN j)] h R ↔ qEv (d + 7) 0 qk_140 86 [some (.ref 16), some (.int (iN i)), some (.int (iN j)), some (.ref (sa i)), some (.ref (sa j)), some (.int (iN 0)), none] [] h1 R := by
          simp (disch := first | assumption | omega) only [e140_0, e140_1, e140_2, e140_5, e140_6, e140_7, e140_8, e140_11, e140_13, e140_14, e140_14N, e140_17, e140_19, e140_19N, e140_22, e140_25, e140_26, e140_27, e140_30, e140_31, e140_34, e140_36, e140_39, e140_40, e140_43, e140_46, e140_47, e140_48, e140_51, e140_53, e140_56, e140_57, e140_60, e140_62, e140_65, e140_66, e140_68, e140_71, e140_74, e140_75, e140_76, e140_79, e140_80, e140_83, e140_84, e140_88, e140_89, e140_92, e140_95, e140_96, e140_98, e140_100, e140_102, e140_105, e140_108, e140_109, e140_112, e140_113, e140_115, e140_116, e140_119, e140_120, e140_122, e140_123, e140_126, e140_128, e140_130, e140_131, e140_134, e140_136, e140_138, e140_139, e140_142, e140_145, e140_148, e140_151, e140_154, e140_157, e140_158, e140_159, e140_162, m140, ↓reduceIte, qg_0, qg_1, qg_2, qg_3, qg_4, qg_5, qg_6, qg_7, qg_8, qg_9, qg_10, qg_11, qg_12, qg_13, not_true_eq_false, not_false_eq_true, Nat.reduceBEq, Bool.false_eq_true, ex1, ex3, ex4, exF, qfit_i, qfit_l, qfit_r, qfit_n, qfit_b0, qfit_b1, qcat_i, qcat_r, qcat_n, qcat_l, qroom_0, qroom_c, List.map_cons, List.map_nil, List.sum_cons, List.sum_nil, Nat.reduceAdd, Nat.reduceMul, Nat.reduceLT, Nat.reduceLeDiff, Nat.reduceEqDiff, Nat.reduceSub, decide_true, true_and, and_true, and_self, if_true, if_false, Option.toList_some, Option.toList_none, List.cons_append, List.nil_append, qsL, qlong, List.length_cons, List.length_nil, iN_L, exI, iN_add, iN_mul, iN_le, iN_lt, iN_eq, Nat.le_refl, qfN0, qfN1, uX_16, vX_16, uX_19, vX_19, uX_27, vX_27, uX_30, vX_30, uX_39, vX_39, uX_41, vX_41, uX_43, vX_43, uX_46, vX_46, uX_50, vX_50, uX_53, vX_53, b1, b2, u16, ult, uF, g0, g1, g2, g3, g4, g5, g6, u16', ult', uF', g0', g1', g2', g3', g4', g5', g6', d1, d2, gX_16_1, m0, lt1, lt2, gX_16_4, r1]
        rw [r0, r2 R, e140_157]
        simp (disch := first | assumption | omega) only [e140_0, e140_1, e140_2, e140_5, e140_6, e140_7, e140_8, e140_11, e140_13, e140_14, e140_14N, e140_17, e140_19, e140_19N, e140_22, e140_25, e140_26, e140_27, e140_30, e140_31, e140_34, e140_36, e140_39, e140_40, e140_43, e140_46, e140_47, e140_48, e140_51, e140_53, e140_56, e140_57, e140_60, e140_62, e140_65, e140_66, e140_68, e140_71, e140_74, e140_75, e140_76, e140_79, e140_80, e140_83, e140_84, e140_88, e140_89, e140_92, e140_95, e140_96, e140_100, e140_102, e140_105, e140_108, e140_109, e140_112, e140_113, e140_115, e140_116, e140_119, e140_120, e140_122, e140_123, e140_126, e140_128, e140_130, e140_131, e140_134, e140_136, e140_138, e140_139, e140_142, e140_145, e140_148, e140_151, e140_154, e140_158, e140_159, e140_162, m140, ↓reduceIte, qg_0, qg_1, qg_2, qg_3, qg_4, qg_5, qg_6, qg_7, qg_8, qg_9, qg_10, qg_11, qg_12, qg_13, not_true_eq_false, not_false_eq_true, Nat.reduceBEq, Bool.false_eq_true, ex1, ex3, ex4, exF, qfit_i, qfit_l, qfit_r, qfit_n, qfit_b0, qfit_b1, qcat_i, qcat_r, qcat_n, qcat_l, qroom_0, qroom_c, List.map_cons, List.map_nil, List.sum_cons, List.sum_nil, Nat.reduceAdd, Nat.reduceMul, Nat.reduceLT, Nat.reduceLeDiff, Nat.reduceEqDiff, Nat.reduceSub, decide_true, true_and, and_true, and_self, if_true, if_false, Option.toList_some, Option.toList_none, List.cons_append, List.nil_append, qsL, qlong, List.length_cons, List.length_nil, iN_L, exI, iN_add, iN_mul, iN_le, iN_lt, iN_eq, Nat.le_refl, qfN0, qfN1, uX_16, vX_16, uX_19, vX_19, uX_27, vX_27, uX_30, vX_30, uX_39, vX_39, uX_41, vX_41, uX_43, vX_43, uX_46, vX_46, uX_50, vX_50, uX_53, vX_53, r3]
end XSHADOW

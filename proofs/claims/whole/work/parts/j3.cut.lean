/-! ===== THE CLASS: pieces ===== -/
section XCUT
variable {h : qH} {bs : List bdy} {sa : Nat → Nat}
/-- one more piece in the row -/
theorem pcX_one {out : List Nat} {Z : Nat → Int32} {y : Nat} (hz : ∀ t, t < out.length → Z t = iN (out.getD t 0)) : ∀ t, t < (out ++ [y]).length → upd Z out.length (iN y) t = iN ((out ++ [y]).getD t 0) := fun t ht => by
  rw [len_add] at ht
  rw [upd_at, getD_add]
  by_cases e : t = out.length
  · rw [if_pos e, if_pos e]
  · rw [if_neg e, if_neg e]; exact hz t (by omega)
theorem take_at {l : List Nat} {j : Nat} (hj : j < l.length) : l.take (j + 1) = l.take j ++ [l.getD j 0] := by
  rw [List.take_add_one, List.getElem?_eq_getElem hj, List.getD_eq_getElem?_getD, List.getElem?_eq_getElem hj]; rfl
set_option maxRecDepth 100000 in
set_option maxHeartbeats 64000000 in
theorem x_cutCell {i f p q w e : Nat} {B : Nat → Nat} (P : SoP (dmn bs i) (cnr bs i) (cel bs i)) (kf : kI h f 256) (hS : ∀ Z, SoD (sI h f Z) (sa i) (dmn bs i) (scl bs i) (cnr bs i) (cel bs i) p q w e B) : ∀ (k : Nat), k ≤ 4 → ∀ (d x u : Nat) (out : List Nat) (Z : Nat → Int32), 0 < x → x < 65536 → u < 65536 → (out ++ pcs bs i k x u).length ≤ 256 → (∀ t, t < out.length → Z t = iN (out.getD t 0)) → ∃ Z', (∀ R, qMC (d + k + 2) 120 [.ref (sa i), .int (iN k), .int (iN x), .int (iN u), .ref f, .int (iN out.length)] (sI h f Z) R ↔ R = (some (.int (iN (out ++ pcs bs i k x u).length)), sI h f Z')) ∧ ∀ t, t < (out ++ pcs bs i k x u).length → Z' t = iN ((out ++ pcs bs i k x u).getD t 0) := by
  have kz : ∀ Z, kI (sI h f Z) f 256 := fun Z => (hKd_sI kf).2.1 _ _ kf
  have lz : ∀ Z, qalen (sI h f Z) f = some (iN 256) := fun Z => lnI (kz Z)
  have wz : ∀ Z j y, j < 256 → qiast (sI h f Z) f (iN j) (iN y) = some (sI h f (upd Z j (iN y))) := fun Z j y hj => by rw [wrI (kz Z) hj, sI_sI, hi_sI, if_pos rfl]
  have one : ∀ (k d x u : Nat) (out : List Nat) (Z : Nat → Int32), x < 65536 → k ≤ 4 → (pop x 24 = k + 1 ∨ k = 0) → (out ++ [x ||| u]).length ≤ 256 → (∀ t, t < out.length → Z t = iN (out.getD t 0)) → ∀ R, qMC (d + 2) 120 [.ref (sa i), .int (iN k), .int (iN x), .int (iN u), .ref f, .int (iN out.length)] (sI h f Z) R ↔ R = (some (.int (iN (out ++ [x ||| u]).length)), sI h f (upd Z out.length (iN (x ||| u)))) := by
    intro k d x u out Z hx hk hc hl hz R
    rw [len_add] at hl ⊢
    have sb : ∀ R, qMC (d + 1) 308 [.int (iN x)] (sI h f Z) R ↔ R = (some (.int (iN (pop x 24))), sI h f Z) := fun R => x_bitCount hx
    have pl := pop_le x 24
    have l1 := lz Z
    have w1 := wz Z out.length (x ||| u) (by omega)
    by_cases q1 : pop x 24 = k + 1
    · simp (disch := first | assumption | omega) only [e120_0, e120_1, e120_4, e120_5, e120_6, e120_7, e120_10, e120_11, e120_12, e120_15, e120_17, e120_19, e120_20, e120_23, e120_25, e120_26, e120_28, e120_30, e120_31, e120_32, e120_33, e120_34, e120_36, e120_37, e120_38, e120_39, e120_40, e120_41, e120_42, e120_43, e120_45, e120_46, e120_49, e120_50, e120_51, e120_52, e120_53, e120_55, e120_57, e120_59, e120_60, e120_64, e120_66, e120_67, e120_70, e120_72, e120_74, e120_75, e120_76, e120_77, e120_78, e120_79, e120_82, e120_84, e120_86, e120_87, e120_89, e120_90, e120_93, e120_94, e120_95, e120_96, e120_97, e120_99, e120_101, e120_102, e120_103, e120_105, e120_106, e120_108, e120_110, e120_113, e120_115, e120_118, e120_121, e120_123, m120, ↓reduceIte, qg_0, qg_1, qg_2, qg_3, qg_4, qg_5, qg_6, qg_7, qg_8, qg_9, qg_10, qg_11, qg_12, qg_13, not_true_eq_false, not_false_eq_true, Nat.reduceBEq, Bool.false_eq_true, ex1, ex3, ex4, exF, qfit_i, qfit_l, qfit_r, qfit_n, qfit_b0, qfit_b1, qcat_i, qcat_r, qcat_n, qcat_l, qroom_0, qroom_c, List.map_cons, List.map_nil, List.sum_cons, List.sum_nil, Nat.reduceAdd, Nat.reduceMul, Nat.reduceLT, Nat.reduceLeDiff, Nat.reduceEqDiff, Nat.reduceSub, decide_true, true_and, and_true, and_self, if_true, if_false, Option.toList_some, Option.toList_none, List.cons_append, List.nil_append, qsL, qlong, List.length_cons, List.length_nil, iN_L, exI, iN_add, iN_mul, iN_le, iN_lt, iN_eq, Nat.le_refl, qfN0, qfN1, uX_16, vX_16, uX_19, vX_19, uX_27, vX_27, uX_30, vX_30, uX_39, vX_39, uX_41, vX_41, uX_43, vX_43, uX_46, vX_46, uX_50, vX_50, uX_53, vX_53, sb, q1, l1, show out.length < 256 by omega, iN_or x u, w1]
    · have k0 : k = 0 := by omega
      subst k0
      simp (disch := first | assumption | omega) only [e120_0, e120_1, e120_4, e120_5, e120_6, e120_7, e120_10, e120_11, e120_12, e120_15, e120_17, e120_19, e120_20, e120_23, e120_25, e120_26, e120_28, e120_30, e120_31, e120_32, e120_33, e120_34, e120_36, e120_37, e120_38, e120_39, e120_40, e120_41, e120_42, e120_43, e120_45, e120_46, e120_49, e120_50, e120_51, e120_52, e120_53, e120_55, e120_57, e120_59, e120_60, e120_64, e120_66, e120_67, e120_70, e120_72, e120_74, e120_75, e120_76, e120_77, e120_78, e120_79, e120_82, e120_84, e120_86, e120_87, e120_89, e120_90, e120_93, e120_94, e120_95, e120_96, e120_97, e120_99, e120_101, e120_102, e120_103, e120_105, e120_106, e120_108, e120_110, e120_113, e120_115, e120_118, e120_121, e120_123, m120, ↓reduceIte, qg_0, qg_1, qg_2, qg_3, qg_4, qg_5, qg_6, qg_7, qg_8, qg_9, qg_10, qg_11, qg_12, qg_13, not_true_eq_false, not_false_eq_true, Nat.reduceBEq, Bool.false_eq_true, ex1, ex3, ex4, exF, qfit_i, qfit_l, qfit_r, qfit_n, qfit_b0, qfit_b1, qcat_i, qcat_r, qcat_n, qcat_l, qroom_0, qroom_c, List.map_cons, List.map_nil, List.sum_cons, List.sum_nil, Nat.reduceAdd, Nat.reduceMul, Nat.reduceLT, Nat.reduceLeDiff, Nat.reduceEqDiff, Nat.reduceSub, decide_true, true_and, and_true, and_self, if_true, if_false, Option.toList_some, Option.toList_none, List.cons_append, List.nil_append, qsL, qlong, List.length_cons, List.length_nil, iN_L, exI, iN_add, iN_mul, iN_le, iN_lt, iN_eq, Nat.le_refl, qfN0, qfN1, uX_16, vX_16, uX_19, vX_19, uX_27, vX_27, uX_30, vX_30, uX_39, vX_39, uX_41, vX_41, uX_43, vX_43, uX_46, vX_46, uX_50, vX_50, uX_53, vX_53, sb, q1, l1, show out.length < 256 by omega, iN_or x u, w1]
  intro k
  induction k with
  | zero =>
    intro hk d x u out Z h0 hx hu hl hz
    exact ⟨_, one 0 d x u out Z hx hk (Or.inr rfl) hl hz, pcX_one hz⟩
  | succ k ih =>
    intro hk d x u out Z h0 hx hu hl hz
    by_cases q1 : pop x 24 = k + 2
    · have e1 : pcs bs i (k + 1) x u = [x ||| u] := by rw [pcs, if_pos q1]
      rw [e1] at hl ⊢
      exact ⟨_, one (k + 1) (d + (k + 1)) x u out Z hx hk (Or.inl q1) hl hz, pcX_one hz⟩
    · have e1 : pcs bs i (k + 1) x u = ((cel bs i k).filter (blwB x)).flatMap fun y => pcs bs i k y (u ||| low x) := by rw [pcs, if_neg q1]
      obtain ⟨g, eg⟩ : ∃ g : Nat → List Nat, g = fun y => pcs bs i k y (u ||| low x) := ⟨_, rfl⟩
      obtain ⟨es, ees⟩ : ∃ es, es = cel bs i k := ⟨_, rfl⟩
      rw [e1, ← eg, ← ees] at hl ⊢
      obtain ⟨c8, cb⟩ := P.2.2.2.2.1 k (by omega)
      rw [← ees] at c8 cb
      have ul : u ||| low x < 65536 := Nat.or_lt_two_pow (n := 16) hu (show low x < 2 ^ 16 by have := low_le (x := x); omega)
      have pre : ∀ j, j ≤ es.length → (out ++ ((es.take j).filter (blwB x)).flatMap g).length ≤ (out ++ (es.filter (blwB x)).flatMap g).length := by
        intro j hj
        have : es = es.take j ++ es.drop j := (List.take_append_drop j es).symm
        rw [show (es.filter (blwB x)).flatMap g = ((es.take j).filter (blwB x)).flatMap g ++ ((es.drop j).filter (blwB x)).flatMap g by rw [← List.flatMap_append, ← List.filter_append, ← this]]
        rw [List.length_append, List.length_append, List.length_append]
        omega
      have loop : ∀ (v j : Nat) (Y : Nat → Int32), j + v = es.length → (∀ t, t < (out ++ ((es.take j).filter (blwB x)).flatMap g).length → Y t = iN ((out ++ ((es.take j).filter (blwB x)).flatMap g).getD t 0)) → ∃ Z', (∀ R, qEv (d + (k + 1) + 1) 0 qk_120 62 [some (.ref (sa i)), some (.int (iN (k + 1))), some (.int (iN x)), some (.int (iN u)), some (.ref f), some (.int (iN out.length)), some (.int (iN (low x))), some (.ref (B k)), some (.int (iN ((out ++ ((es.take j).filter (blwB x)).flatMap g).length))), some (.int (iN j))] [] (sI h f Y) R ↔ R = (some (.int (iN (out ++ (es.filter (blwB x)).flatMap g).length)), sI h f Z')) ∧ ∀ t, t < (out ++ (es.filter (blwB x)).flatMap g).length → Z' t = iN ((out ++ (es.filter (blwB x)).flatMap g).getD t 0) := by
        intro v
        induction v with
        | zero =>
          intro j Y hj hy
          have ej : j = es.length := by omega
          subst ej
          rw [List.take_length] at hy ⊢
          have cl := (hS Y).cl (K := k) (by omega)
          rw [← ees] at cl
          refine ⟨Y, fun R => ?_, hy⟩
          rw [e120_62]
          simp (disch := first | assumption | omega) only [e120_0, e120_1, e120_4, e120_5, e120_6, e120_7, e120_10, e120_11, e120_12, e120_15, e120_17, e120_19, e120_20, e120_23, e120_25, e120_26, e120_28, e120_30, e120_31, e120_32, e120_33, e120_34, e120_36, e120_37, e120_38, e120_39, e120_40, e120_41, e120_42, e120_43, e120_45, e120_46, e120_49, e120_50, e120_51, e120_52, e120_53, e120_55, e120_57, e120_59, e120_60, e120_64, e120_66, e120_67, e120_70, e120_72, e120_74, e120_75, e120_76, e120_77, e120_78, e120_79, e120_82, e120_84, e120_86, e120_87, e120_89, e120_90, e120_93, e120_94, e120_95, e120_96, e120_97, e120_99, e120_101, e120_102, e120_103, e120_105, e120_106, e120_108, e120_110, e120_113, e120_115, e120_118, e120_121, e120_123, m120, ↓reduceIte, qg_0, qg_1, qg_2, qg_3, qg_4, qg_5, qg_6, qg_7, qg_8, qg_9, qg_10, qg_11, qg_12, qg_13, not_true_eq_false, not_false_eq_true, Nat.reduceBEq, Bool.false_eq_true, ex1, ex3, ex4, exF, qfit_i, qfit_l, qfit_r, qfit_n, qfit_b0, qfit_b1, qcat_i, qcat_r, qcat_n, qcat_l, qroom_0, qroom_c, List.map_cons, List.map_nil, List.sum_cons, List.sum_nil, Nat.reduceAdd, Nat.reduceMul, Nat.reduceLT, Nat.reduceLeDiff, Nat.reduceEqDiff, Nat.reduceSub, decide_true, true_and, and_true, and_self, if_true, if_false, Option.toList_some, Option.toList_none, List.cons_append, List.nil_append, qsL, qlong, List.length_cons, List.length_nil, iN_L, exI, iN_add, iN_mul, iN_le, iN_lt, iN_eq, Nat.le_refl, qfN0, qfN1, uX_16, vX_16, uX_19, vX_19, uX_27, vX_27, uX_30, vX_30, uX_39, vX_39, uX_41, vX_41, uX_43, vX_43, uX_46, vX_46, uX_50, vX_50, uX_53, vX_53, cl]
        | succ v ihv =>
          intro j Y hj hy
          have hj' : j < es.length := by omega
          have cl := (hS Y).cl (K := k) (by omega)
          have ck := (hS Y).ck (K := k) (k := j) (by omega) (by rw [← ees]; exact hj')
          rw [← ees] at cl ck
          obtain ⟨y0, y1⟩ := cb j hj'
          have lowl := low_le (x := x)
          have wl := wo_le (es.getD j 0) x
          have al : es.getD j 0 &&& low x ≤ es.getD j 0 := Nat.and_le_left
          have pl := pre j (by omega)
          by_cases z : blwB x (es.getD j 0) = true
          · have z' := z
            unfold blwB at z'
            rw [Bool.and_eq_true, decide_eq_true_eq, decide_eq_true_eq] at z'
            have et : ((es.take (j + 1)).filter (blwB x)).flatMap g = ((es.take j).filter (blwB x)).flatMap g ++ g (es.getD j 0) := by
              rw [take_at hj', List.filter_append, List.flatMap_append, List.filter_cons, if_pos z, List.filter_nil, List.flatMap_cons, List.flatMap_nil, List.append_nil]
            have p2 := pre (j + 1) hj'
            rw [et, ← List.append_assoc] at p2
            obtain ⟨Y', r', v'⟩ := ih (by omega) d (es.getD j 0) (u ||| low x) (out ++ ((es.take j).filter (blwB x)).flatMap g) Y y0 y1 ul (by
              have : pcs bs i k (es.getD j 0) (u ||| low x) = g (es.getD j 0) := by rw [eg]
              rw [this]; omega) hy
            have eg' : pcs bs i k (es.getD j 0) (u ||| low x) = g (es.getD j 0) := by rw [eg]
            rw [eg'] at r' v'
            rw [List.append_assoc, ← et] at r' v'
            rw [show d + k + 2 = d + (k + 1) + 1 by omega] at r'
            obtain ⟨Z', r2, v2⟩ := ihv (j + 1) Y' (by omega) v'
            refine ⟨Z', fun R => ?_, v2⟩
            rw [← r2 R, e120_62]
            have ek : iN (k + 1) - iN 1 = iN k := by rw [iN_sub (by omega)]; rfl
            simp (disch := first | assumption | omega) only [e120_0, e120_1, e120_4, e120_5, e120_6, e120_7, e120_10, e120_11, e120_12, e120_15, e120_17, e120_19, e120_20, e120_23, e120_25, e120_26, e120_28, e120_30, e120_31, e120_32, e120_33, e120_34, e120_36, e120_37, e120_38, e120_39, e120_40, e120_41, e120_42, e120_43, e120_45, e120_46, e120_49, e120_50, e120_51, e120_52, e120_53, e120_55, e120_57, e120_59, e120_60, e120_64, e120_66, e120_67, e120_70, e120_72, e120_74, e120_75, e120_76, e120_77, e120_78, e120_79, e120_82, e120_84, e120_86, e120_87, e120_89, e120_90, e120_93, e120_94, e120_95, e120_96, e120_97, e120_99, e120_101, e120_102, e120_103, e120_105, e120_106, e120_108, e120_110, e120_113, e120_115, e120_118, e120_121, e120_123, m120, ↓reduceIte, qg_0, qg_1, qg_2, qg_3, qg_4, qg_5, qg_6, qg_7, qg_8, qg_9, qg_10, qg_11, qg_12, qg_13, not_true_eq_false, not_false_eq_true, Nat.reduceBEq, Bool.false_eq_true, ex1, ex3, ex4, exF, qfit_i, qfit_l, qfit_r, qfit_n, qfit_b0, qfit_b1, qcat_i, qcat_r, qcat_n, qcat_l, qroom_0, qroom_c, List.map_cons, List.map_nil, List.sum_cons, List.sum_nil, Nat.reduceAdd, Nat.reduceMul, Nat.reduceLT, Nat.reduceLeDiff, Nat.reduceEqDiff, Nat.reduceSub, decide_true, true_and, and_true, and_self, if_true, if_false, Option.toList_some, Option.toList_none, List.cons_append, List.nil_append, qsL, qlong, List.length_cons, List.length_nil, iN_L, exI, iN_add, iN_mul, iN_le, iN_lt, iN_eq, Nat.le_refl, qfN0, qfN1, uX_16, vX_16, uX_19, vX_19, uX_27, vX_27, uX_30, vX_30, uX_39, vX_39, uX_41, vX_41, uX_43, vX_43, uX_46, vX_46, uX_50, vX_50, uX_53, vX_53, cl, show ¬ es.length ≤ j by omega, ck, iN_wo', z'.1, iN_and (es.getD j 0) (low x), z'.2, ek, iN_or u (low x), r']
          · have et : ((es.take (j + 1)).filter (blwB x)).flatMap g = ((es.take j).filter (blwB x)).flatMap g := by
              rw [take_at hj', List.filter_append, List.flatMap_append, List.filter_cons, if_neg z, List.filter_nil, List.flatMap_nil, List.append_nil]
            obtain ⟨Z', r2, v2⟩ := ihv (j + 1) Y (by omega) (by rw [et]; exact hy)
            refine ⟨Z', fun R => ?_, v2⟩
            rw [et] at r2
            rw [← r2 R, e120_62]
            by_cases z1 : wo (es.getD j 0) x = 0
            · have z2 : ¬ es.getD j 0 &&& low x = 0 := fun y => z (by unfold blwB; rw [decide_eq_true z1, decide_eq_true y]; rfl)
              simp (disch := first | assumption | omega) only [e120_0, e120_1, e120_4, e120_5, e120_6, e120_7, e120_10, e120_11, e120_12, e120_15, e120_17, e120_19, e120_20, e120_23, e120_25, e120_26, e120_28, e120_30, e120_31, e120_32, e120_33, e120_34, e120_36, e120_37, e120_38, e120_39, e120_40, e120_41, e120_42, e120_43, e120_45, e120_46, e120_49, e120_50, e120_51, e120_52, e120_53, e120_55, e120_57, e120_59, e120_60, e120_64, e120_66, e120_67, e120_70, e120_72, e120_74, e120_75, e120_76, e120_77, e120_78, e120_79, e120_82, e120_84, e120_86, e120_87, e120_89, e120_90, e120_93, e120_94, e120_95, e120_96, e120_97, e120_99, e120_101, e120_102, e120_103, e120_105, e120_106, e120_108, e120_110, e120_113, e120_115, e120_118, e120_121, e120_123, m120, ↓reduceIte, qg_0, qg_1, qg_2, qg_3, qg_4, qg_5, qg_6, qg_7, qg_8, qg_9, qg_10, qg_11, qg_12, qg_13, not_true_eq_false, not_false_eq_true, Nat.reduceBEq, Bool.false_eq_true, ex1, ex3, ex4, exF, qfit_i, qfit_l, qfit_r, qfit_n, qfit_b0, qfit_b1, qcat_i, qcat_r, qcat_n, qcat_l, qroom_0, qroom_c, List.map_cons, List.map_nil, List.sum_cons, List.sum_nil, Nat.reduceAdd, Nat.reduceMul, Nat.reduceLT, Nat.reduceLeDiff, Nat.reduceEqDiff, Nat.reduceSub, decide_true, true_and, and_true, and_self, if_true, if_false, Option.toList_some, Option.toList_none, List.cons_append, List.nil_append, qsL, qlong, List.length_cons, List.length_nil, iN_L, exI, iN_add, iN_mul, iN_le, iN_lt, iN_eq, Nat.le_refl, qfN0, qfN1, uX_16, vX_16, uX_19, vX_19, uX_27, vX_27, uX_30, vX_30, uX_39, vX_39, uX_41, vX_41, uX_43, vX_43, uX_46, vX_46, uX_50, vX_50, uX_53, vX_53, cl, show ¬ es.length ≤ j by omega, ck, iN_wo', z1, iN_and (es.getD j 0) (low x), z2]
            · simp (disch := first | assumption | omega) only [e120_0, e120_1, e120_4, e120_5, e120_6, e120_7, e120_10, e120_11, e120_12, e120_15, e120_17, e120_19, e120_20, e120_23, e120_25, e120_26, e120_28, e120_30, e120_31, e120_32, e120_33, e120_34, e120_36, e120_37, e120_38, e120_39, e120_40, e120_41, e120_42, e120_43, e120_45, e120_46, e120_49, e120_50, e120_51, e120_52, e120_53, e120_55, e120_57, e120_59, e120_60, e120_64, e120_66, e120_67, e120_70, e120_72, e120_74, e120_75, e120_76, e120_77, e120_78, e120_79, e120_82, e120_84, e120_86, e120_87, e120_89, e120_90, e120_93, e120_94, e120_95, e120_96, e120_97, e120_99, e120_101, e120_102, e120_103, e120_105, e120_106, e120_108, e120_110, e120_113, e120_115, e120_118, e120_121, e120_123, m120, ↓reduceIte, qg_0, qg_1, qg_2, qg_3, qg_4, qg_5, qg_6, qg_7, qg_8, qg_9, qg_10, qg_11, qg_12, qg_13, not_true_eq_false, not_false_eq_true, Nat.reduceBEq, Bool.false_eq_true, ex1, ex3, ex4, exF, qfit_i, qfit_l, qfit_r, qfit_n, qfit_b0, qfit_b1, qcat_i, qcat_r, qcat_n, qcat_l, qroom_0, qroom_c, List.map_cons, List.map_nil, List.sum_cons, List.sum_nil, Nat.reduceAdd, Nat.reduceMul, Nat.reduceLT, Nat.reduceLeDiff, Nat.reduceEqDiff, Nat.reduceSub, decide_true, true_and, and_true, and_self, if_true, if_false, Option.toList_some, Option.toList_none, List.cons_append, List.nil_append, qsL, qlong, List.length_cons, List.length_nil, iN_L, exI, iN_add, iN_mul, iN_le, iN_lt, iN_eq, Nat.le_refl, qfN0, qfN1, uX_16, vX_16, uX_19, vX_19, uX_27, vX_27, uX_30, vX_30, uX_39, vX_39, uX_41, vX_41, uX_43, vX_43, uX_46, vX_46, uX_50, vX_50, uX_53, vX_53, cl, show ¬ es.length ≤ j by omega, ck, iN_wo', z1]
      obtain ⟨Z', r', v'⟩ := loop es.length 0 Z (by omega) (by rw [List.take_zero, List.filter_nil, List.flatMap_nil, List.append_nil]; exact hz)
      refine ⟨Z', fun R => ?_, v'⟩
      rw [List.take_zero, List.filter_nil, List.flatMap_nil, List.append_nil] at r'
      have sb : ∀ R, qMC (d + (k + 1) + 1) 308 [.int (iN x)] (sI h f Z) R ↔ R = (some (.int (iN (pop x 24))), sI h f Z) := fun R => x_bitCount hx
      have pl := pop_le x 24
      have lw : iN x &&& -iN x = iN (low x) := iN_low (by omega)
      have ek : iN (k + 1) - iN 1 = iN k := by rw [iN_sub (by omega)]; rfl
      obtain ⟨⟨u16, ult, uF⟩, g0, g1, g2, g3, g4, g5, g6⟩ := (hS Z).obj
      have ce := (hS Z).ce (K := k) (by omega)
      rw [← r' R]
      simp (disch := first | assumption | omega) only [e120_0, e120_1, e120_4, e120_5, e120_6, e120_7, e120_10, e120_11, e120_12, e120_15, e120_17, e120_19, e120_20, e120_23, e120_25, e120_26, e120_28, e120_30, e120_31, e120_32, e120_33, e120_34, e120_36, e120_37, e120_38, e120_39, e120_40, e120_41, e120_42, e120_43, e120_45, e120_46, e120_49, e120_50, e120_51, e120_52, e120_53, e120_55, e120_57, e120_59, e120_60, e120_64, e120_66, e120_67, e120_70, e120_72, e120_74, e120_75, e120_76, e120_77, e120_78, e120_79, e120_82, e120_84, e120_86, e120_87, e120_89, e120_90, e120_93, e120_94, e120_95, e120_96, e120_97, e120_99, e120_101, e120_102, e120_103, e120_105, e120_106, e120_108, e120_110, e120_113, e120_115, e120_118, e120_121, e120_123, m120, ↓reduceIte, qg_0, qg_1, qg_2, qg_3, qg_4, qg_5, qg_6, qg_7, qg_8, qg_9, qg_10, qg_11, qg_12, qg_13, not_true_eq_false, not_false_eq_true, Nat.reduceBEq, Bool.false_eq_true, ex1, ex3, ex4, exF, qfit_i, qfit_l, qfit_r, qfit_n, qfit_b0, qfit_b1, qcat_i, qcat_r, qcat_n, qcat_l, qroom_0, qroom_c, List.map_cons, List.map_nil, List.sum_cons, List.sum_nil, Nat.reduceAdd, Nat.reduceMul, Nat.reduceLT, Nat.reduceLeDiff, Nat.reduceEqDiff, Nat.reduceSub, decide_true, true_and, and_true, and_self, if_true, if_false, Option.toList_some, Option.toList_none, List.cons_append, List.nil_append, qsL, qlong, List.length_cons, List.length_nil, iN_L, exI, iN_add, iN_mul, iN_le, iN_lt, iN_eq, Nat.le_refl, qfN0, qfN1, uX_16, vX_16, uX_19, vX_19, uX_27, vX_27, uX_30, vX_30, uX_39, vX_39, uX_41, vX_41, uX_43, vX_43, uX_46, vX_46, uX_50, vX_50, uX_53, vX_53, sb, show ¬ pop x 24 = k + 1 + 1 by omega, show 1 ≤ k + 1 by omega, lw, u16, ult, uF, g0, g1, g2, g3, g4, g5, g6, ek, ce, rf_some]
end XCUT

/-! ===== THE CLASS: whole ===== -/
section XWHOLE
variable {d : Nat} {h : qH} {R : qRes} {bs : List bdy} {sa : Nat → Nat} {i t : Nat}
noncomputable def loN (bs : List bdy) (i t : Nat) (k : Nat) : Int := (t : Int) * loW bs i k
theorem box_b (P : SoP (dmn bs i) (cnr bs i) (cel bs i)) (ht : 1 ≤ t ∧ t ≤ 4) {k : Nat} (hk : k < 4) : (-3996 ≤ loN bs i t k ∧ loN bs i t k ≤ 3996) ∧ (wdW bs i t k = (wN bs i t k : Int) ∧ 1 ≤ wN bs i t k ∧ wN bs i t k ≤ 7993) ∧ loN bs i t k = mnZ (fun c => lP (cnr bs i) c k) (cnr bs i).length * (t : Int) ∧ loN bs i t k + (wN bs i t k : Int) - 1 = mxZ (fun c => lP (cnr bs i) c k) (cnr bs i).length * (t : Int) := by
  have n1 := P.2.1
  have bf : ∀ c, c < (cnr bs i).length → -999 ≤ (fun c => lP (cnr bs i) c k) c ∧ (fun c => lP (cnr bs i) c k) c ≤ 999 := fun c hc => P.2.2.1 c hc k hk
  have h1 := mnZ_b (bf 0 (by omega)) bf _ (Nat.le_refl _)
  have h2 := mxZ_b (bf 0 (by omega)) bf _ (Nat.le_refl _)
  have h3 := mn_mx (f := fun c => lP (cnr bs i) c k) (cnr bs i).length
  have e1 : loW bs i k = mnZ (fun c => lP (cnr bs i) c k) (cnr bs i).length := rfl
  have e2 : hiW bs i k = mxZ (fun c => lP (cnr bs i) c k) (cnr bs i).length := rfl
  have b1 := four_b ht h1
  have b2 := four_b ht h2
  unfold wN loN wdW
  rw [← e1, ← e2] at h3
  rw [← e1] at h1 b1 ⊢
  rw [← e2] at h2 b2 ⊢
  generalize loW bs i k = x at *
  generalize hiW bs i k = y at *
  rcases (by omega : t = 1 ∨ t = 2 ∨ t = 3 ∨ t = 4) with rfl | rfl | rfl | rfl
  all_goals exact ⟨by omega, ⟨by omega, by omega, by omega⟩, by omega, by omega⟩
theorem ov_ln {Q : Nat → Nat → Int} {z j D : Nat} {p : pt4} {f : Nat → Int} (hq : ∀ k, D ≤ k → k < 4 → Q j k = 0) (hD : 2 ≤ D) (e0 : f 0 = p.1) (e1 : f 1 = p.2.1) (e2 : f 2 = p.2.2.1) (e3 : f 3 = p.2.2.2) : lnB Q t z f j = decide (ovZ (Q j) D p (t : Int) ≤ -(z : Int)) := by
  have : Q j 0 * f 0 + Q j 1 * f 1 + Q j 2 * f 2 + Q j 3 * f 3 - Q j 4 * (t : Int) = ovZ (Q j) D p (t : Int) := by
    unfold ovZ
    rw [e0, e1, e2, e3]
    by_cases z2 : 2 < D
    · rw [if_pos z2]
      by_cases z3 : 3 < D
      · rw [if_pos z3]; omega
      · rw [if_neg z3, hq 3 (by omega) (by omega), Int.zero_mul]; omega
    · rw [if_neg z2, if_neg (show ¬ 3 < D by omega), hq 2 (by omega) (by omega), hq 3 (by omega) (by omega), Int.zero_mul, Int.zero_mul]; omega
  unfold lnB
  rw [this]
theorem wh_box {Q Qv : Nat → Nat → Int} {z P w : Nat} (so' : SoP (dmn bs i) (cnr bs i) (cel bs i)) (ok : okP (bs.getD i b0).1 (dmn bs i)) (so : solid (bs.getD i b0).1 (dmn bs i)) (V : SoQ h w (bs.getD i b0).1 (dmn bs i) (fct bs i) Q) (pl : plA bs i Qv) (ht : 1 ≤ t ∧ t ≤ 4) (hz : z ≤ 1) (hP : pdW bs i t 4 = (P : Int)) : P = wN bs i t 0 * (wN bs i t 1 * (wN bs i t 2 * wN bs i t 3)) ∧ whN bs i Qv t z P = box4 (s4N Q t z (fct bs i).length (loN bs i t)) (wN bs i t 0) (wN bs i t 1) (wN bs i t 2) (wN bs i t 3) := by
  have b : ∀ k, k < 4 → wdW bs i t k = (wN bs i t k : Int) := fun k hk => (box_b so' ht hk).2.1.1
  have eP : P = wN bs i t 0 * (wN bs i t 1 * (wN bs i t 2 * wN bs i t 3)) := by
    have : (P : Int) = ((wN bs i t 0 * (wN bs i t 1 * (wN bs i t 2 * wN bs i t 3)) : Nat) : Int) := by
      rw [← hP]
      show 1 * wdW bs i t 0 * wdW bs i t 1 * wdW bs i t 2 * wdW bs i t 3 = _
      rw [b 0 (by decide), b 1 (by decide), b 2 (by decide), b 3 (by decide), Int.natCast_mul, Int.natCast_mul, Int.natCast_mul, Int.one_mul, Int.mul_assoc, Int.mul_assoc]
    omega
  refine ⟨eP, ?_⟩
  rw [← box_radix, ← eP]
  unfold whN
  rw [cntN_sum]
  refine sumN_ext fun m _ => ?_
  unfold s4N
  have hD := so'.1
  have : allN (inW bs i Qv t z (ptW bs i t m)) (fct bs i).length = allN (fun j => lnB Q t z (p4N (loN bs i t) (m % wN bs i t 0) (m / wN bs i t 0 % wN bs i t 1) (m / wN bs i t 0 / wN bs i t 1 % wN bs i t 2) (m / wN bs i t 0 / wN bs i t 1 / wN bs i t 2)) j) (fct bs i).length := allN_ext fun j hj => by
    obtain ⟨⟨ps, pb⟩, -⟩ := V.2 j hj
    have sg := pl_sgn ok so ps (pl j hj) (ptW bs i t m) (t : Int)
    rw [ov_ln (D := dmn bs i) (p := ptW bs i t m) pb.2.2 hD.1 rfl rfl rfl rfl]
    unfold inW
    rw [Bool.eq_iff_iff, decide_eq_true_eq, decide_eq_true_eq]
    rcases (by omega : z = 0 ∨ z = 1) with rfl | rfl <;> omega
  rw [this]
set_option maxRecDepth 100000 in
set_option maxHeartbeats 32000000 in
theorem x_whole {x y z v : Int32} (s : ShX h) (X : BsX h bs sa) (hv : whoR bs x y z v) : ∃ h', (∀ R, qMC (d + 4) 170 [.ref 16, .int x, .int y, .int z] h R ↔ R = (some (.int v), h')) ∧ ChX [47, 48, 49] [(46, 0), (46, 1), (46, 2)] 0 h h' := by
  rcases hv with ⟨hx, rfl⟩ | ⟨i, ⟨hi', rfl⟩, hv⟩
  · have b : ∀ R, qMC (d + 3) 179 [.ref 16, .int x] h R ↔ R = (some .null, h) := fun R => x_bodyAt0 s X hx
    refine ⟨h, fun R => ?_, ChX.refl s⟩
    simp (disch := first | assumption | omega) only [e170_0, e170_1, e170_2, e170_5, e170_7, e170_9, e170_9N, e170_12, e170_15, e170_16, e170_17, e170_18, e170_21, e170_22, e170_23, e170_26, e170_27, e170_30, e170_31, e170_32, e170_35, e170_38, e170_39, e170_40, e170_43, e170_45, e170_46, e170_47, e170_50, e170_51, e170_54, e170_57, e170_60, e170_61, e170_64, e170_67, e170_70, e170_71, e170_74, e170_77, m170, ↓reduceIte, qg_0, qg_1, qg_2, qg_3, qg_4, qg_5, qg_6, qg_7, qg_8, qg_9, qg_10, qg_11, qg_12, qg_13, not_true_eq_false, not_false_eq_true, Nat.reduceBEq, Bool.false_eq_true, ex1, ex3, ex4, exF, qfit_i, qfit_l, qfit_r, qfit_n, qfit_b0, qfit_b1, qcat_i, qcat_r, qcat_n, qcat_l, qroom_0, qroom_c, List.map_cons, List.map_nil, List.sum_cons, List.sum_nil, Nat.reduceAdd, Nat.reduceMul, Nat.reduceLT, Nat.reduceLeDiff, Nat.reduceEqDiff, Nat.reduceSub, decide_true, true_and, and_true, and_self, if_true, if_false, Option.toList_some, Option.toList_none, List.cons_append, List.nil_append, qsL, qlong, List.length_cons, List.length_nil, iN_L, exI, iN_add, iN_mul, iN_le, iN_lt, iN_eq, Nat.le_refl, qfN0, qfN1, uX_16, vX_16, uX_19, vX_19, uX_27, vX_27, uX_30, vX_30, uX_39, vX_39, uX_41, vX_41, uX_43, vX_43, uX_46, vX_46, uX_50, vX_50, uX_53, vX_53, b]
  · have b : ∀ R, qMC (d + 3) 179 [.ref 16, .int (iN i)] h R ↔ R = (some (.ref (sa i)), h) := fun R => x_bodyAt1 s X hi'
    rcases hv with ⟨hn, rfl⟩ | ⟨t, u, ⟨ht, rfl⟩, ⟨hu, rfl⟩, hv⟩
    · have h1 : ¬ (¬ y < iN 1 ∧ ¬ iN 4 < y ∧ ¬ z < iN 0 ∧ ¬ iN 1 < z) := fun ⟨a1, a2, a3, a4⟩ => hn (by
        rw [Int32.lt_iff_toInt_lt, iN_int (by decide)] at a1 a2 a3 a4
        exact ⟨⟨y.toInt.toNat, by omega, by rw [← Int32.toInt_inj, iN_int (by omega)]; omega⟩, ⟨z.toInt.toNat, by omega, by rw [← Int32.toInt_inj, iN_int (by omega)]; omega⟩⟩)
      have c4 : (y ≤ iN 4) = ¬ (iN 4 < y) := propext ⟨fun a b => by rw [Int32.le_iff_toInt_le] at a; rw [Int32.lt_iff_toInt_lt] at b; omega, fun a => by rw [Int32.lt_iff_toInt_lt] at a; rw [Int32.le_iff_toInt_le]; omega⟩
      have c1 : (iN 1 ≤ y) = ¬ (y < iN 1) := propext ⟨fun a b => by rw [Int32.le_iff_toInt_le] at a; rw [Int32.lt_iff_toInt_lt] at b; omega, fun a => by rw [Int32.lt_iff_toInt_lt] at a; rw [Int32.le_iff_toInt_le]; omega⟩
      have c0 : (iN 0 ≤ z) = ¬ (z < iN 0) := propext ⟨fun a b => by rw [Int32.le_iff_toInt_le] at a; rw [Int32.lt_iff_toInt_lt] at b; omega, fun a => by rw [Int32.lt_iff_toInt_lt] at a; rw [Int32.le_iff_toInt_le]; omega⟩
      have c2 : (z ≤ iN 1) = ¬ (iN 1 < z) := propext ⟨fun a b => by rw [Int32.le_iff_toInt_le] at a; rw [Int32.lt_iff_toInt_lt] at b; omega, fun a => by rw [Int32.lt_iff_toInt_lt] at a; rw [Int32.le_iff_toInt_le]; omega⟩
      refine ⟨h, fun R => ?_, ChX.refl s⟩
      by_cases q1 : y < iN 1
      · simp (disch := first | assumption | omega) only [e170_0, e170_1, e170_2, e170_5, e170_7, e170_9, e170_9N, e170_12, e170_15, e170_16, e170_17, e170_18, e170_21, e170_22, e170_23, e170_26, e170_27, e170_30, e170_31, e170_32, e170_35, e170_38, e170_39, e170_40, e170_43, e170_45, e170_46, e170_47, e170_50, e170_51, e170_54, e170_57, e170_60, e170_61, e170_64, e170_67, e170_70, e170_71, e170_74, e170_77, m170, ↓reduceIte, qg_0, qg_1, qg_2, qg_3, qg_4, qg_5, qg_6, qg_7, qg_8, qg_9, qg_10, qg_11, qg_12, qg_13, not_true_eq_false, not_false_eq_true, Nat.reduceBEq, Bool.false_eq_true, ex1, ex3, ex4, exF, qfit_i, qfit_l, qfit_r, qfit_n, qfit_b0, qfit_b1, qcat_i, qcat_r, qcat_n, qcat_l, qroom_0, qroom_c, List.map_cons, List.map_nil, List.sum_cons, List.sum_nil, Nat.reduceAdd, Nat.reduceMul, Nat.reduceLT, Nat.reduceLeDiff, Nat.reduceEqDiff, Nat.reduceSub, decide_true, true_and, and_true, and_self, if_true, if_false, Option.toList_some, Option.toList_none, List.cons_append, List.nil_append, qsL, qlong, List.length_cons, List.length_nil, iN_L, exI, iN_add, iN_mul, iN_le, iN_lt, iN_eq, Nat.le_refl, qfN0, qfN1, uX_16, vX_16, uX_19, vX_19, uX_27, vX_27, uX_30, vX_30, uX_39, vX_39, uX_41, vX_41, uX_43, vX_43, uX_46, vX_46, uX_50, vX_50, uX_53, vX_53, b, c1, c2, c0, c4, q1]
      by_cases q2 : iN 4 < y
      · simp (disch := first | assumption | omega) only [e170_0, e170_1, e170_2, e170_5, e170_7, e170_9, e170_9N, e170_12, e170_15, e170_16, e170_17, e170_18, e170_21, e170_22, e170_23, e170_26, e170_27, e170_30, e170_31, e170_32, e170_35, e170_38, e170_39, e170_40, e170_43, e170_45, e170_46, e170_47, e170_50, e170_51, e170_54, e170_57, e170_60, e170_61, e170_64, e170_67, e170_70, e170_71, e170_74, e170_77, m170, ↓reduceIte, qg_0, qg_1, qg_2, qg_3, qg_4, qg_5, qg_6, qg_7, qg_8, qg_9, qg_10, qg_11, qg_12, qg_13, not_true_eq_false, not_false_eq_true, Nat.reduceBEq, Bool.false_eq_true, ex1, ex3, ex4, exF, qfit_i, qfit_l, qfit_r, qfit_n, qfit_b0, qfit_b1, qcat_i, qcat_r, qcat_n, qcat_l, qroom_0, qroom_c, List.map_cons, List.map_nil, List.sum_cons, List.sum_nil, Nat.reduceAdd, Nat.reduceMul, Nat.reduceLT, Nat.reduceLeDiff, Nat.reduceEqDiff, Nat.reduceSub, decide_true, true_and, and_true, and_self, if_true, if_false, Option.toList_some, Option.toList_none, List.cons_append, List.nil_append, qsL, qlong, List.length_cons, List.length_nil, iN_L, exI, iN_add, iN_mul, iN_le, iN_lt, iN_eq, Nat.le_refl, qfN0, qfN1, uX_16, vX_16, uX_19, vX_19, uX_27, vX_27, uX_30, vX_30, uX_39, vX_39, uX_41, vX_41, uX_43, vX_43, uX_46, vX_46, uX_50, vX_50, uX_53, vX_53, b, c1, c2, c0, c4, q1, q2]
      by_cases q3 : z < iN 0
      · simp (disch := first | assumption | omega) only [e170_0, e170_1, e170_2, e170_5, e170_7, e170_9, e170_9N, e170_12, e170_15, e170_16, e170_17, e170_18, e170_21, e170_22, e170_23, e170_26, e170_27, e170_30, e170_31, e170_32, e170_35, e170_38, e170_39, e170_40, e170_43, e170_45, e170_46, e170_47, e170_50, e170_51, e170_54, e170_57, e170_60, e170_61, e170_64, e170_67, e170_70, e170_71, e170_74, e170_77, m170, ↓reduceIte, qg_0, qg_1, qg_2, qg_3, qg_4, qg_5, qg_6, qg_7, qg_8, qg_9, qg_10, qg_11, qg_12, qg_13, not_true_eq_false, not_false_eq_true, Nat.reduceBEq, Bool.false_eq_true, ex1, ex3, ex4, exF, qfit_i, qfit_l, qfit_r, qfit_n, qfit_b0, qfit_b1, qcat_i, qcat_r, qcat_n, qcat_l, qroom_0, qroom_c, List.map_cons, List.map_nil, List.sum_cons, List.sum_nil, Nat.reduceAdd, Nat.reduceMul, Nat.reduceLT, Nat.reduceLeDiff, Nat.reduceEqDiff, Nat.reduceSub, decide_true, true_and, and_true, and_self, if_true, if_false, Option.toList_some, Option.toList_none, List.cons_append, List.nil_append, qsL, qlong, List.length_cons, List.length_nil, iN_L, exI, iN_add, iN_mul, iN_le, iN_lt, iN_eq, Nat.le_refl, qfN0, qfN1, uX_16, vX_16, uX_19, vX_19, uX_27, vX_27, uX_30, vX_30, uX_39, vX_39, uX_41, vX_41, uX_43, vX_43, uX_46, vX_46, uX_50, vX_50, uX_53, vX_53, b, c1, c2, c0, c4, q1, q2, q3]
      by_cases q4 : iN 1 < z
      · simp (disch := first | assumption | omega) only [e170_0, e170_1, e170_2, e170_5, e170_7, e170_9, e170_9N, e170_12, e170_15, e170_16, e170_17, e170_18, e170_21, e170_22, e170_23, e170_26, e170_27, e170_30, e170_31, e170_32, e170_35, e170_38, e170_39, e170_40, e170_43, e170_45, e170_46, e170_47, e170_50, e170_51, e170_54, e170_57, e170_60, e170_61, e170_64, e170_67, e170_70, e170_71, e170_74, e170_77, m170, ↓reduceIte, qg_0, qg_1, qg_2, qg_3, qg_4, qg_5, qg_6, qg_7, qg_8, qg_9, qg_10, qg_11, qg_12, qg_13, not_true_eq_false, not_false_eq_true, Nat.reduceBEq, Bool.false_eq_true, ex1, ex3, ex4, exF, qfit_i, qfit_l, qfit_r, qfit_n, qfit_b0, qfit_b1, qcat_i, qcat_r, qcat_n, qcat_l, qroom_0, qroom_c, List.map_cons, List.map_nil, List.sum_cons, List.sum_nil, Nat.reduceAdd, Nat.reduceMul, Nat.reduceLT, Nat.reduceLeDiff, Nat.reduceEqDiff, Nat.reduceSub, decide_true, true_and, and_true, and_self, if_true, if_false, Option.toList_some, Option.toList_none, List.cons_append, List.nil_append, qsL, qlong, List.length_cons, List.length_nil, iN_L, exI, iN_add, iN_mul, iN_le, iN_lt, iN_eq, Nat.le_refl, qfN0, qfN1, uX_16, vX_16, uX_19, vX_19, uX_27, vX_27, uX_30, vX_30, uX_39, vX_39, uX_41, vX_41, uX_43, vX_43, uX_46, vX_46, uX_50, vX_50, uX_53, vX_53, b, c1, c2, c0, c4, q1, q2, q3, q4]
      · exact absurd ⟨q1, q2, q3, q4⟩ h1
    · obtain ⟨p, q, w, e, B, Q, S, P, V⟩ := X.q hi'
      obtain ⟨⟨ok, so⟩, -⟩ := X.2.2.2 i hi'
      obtain ⟨h1, r1, c1, f1, v1⟩ := x_aim (d := d + 1) s S P ht hu
      have s1 := c1.sh
      have ks := kpS.of c1 (by decide)
      have L1 : LtX h1 (sa i) t u (loN bs i t) (wN bs i t) := ⟨f1, fun k hk => by
        obtain ⟨a1, a2⟩ := v1 k hk
        obtain ⟨-, -, b1, b2⟩ := box_b P ht hk
        exact ⟨by rw [a1, b1], by rw [a2, b2]⟩, fun k hk => by
        obtain ⟨b1, b2, -, -⟩ := box_b P ht hk
        exact ⟨b1, b2.2⟩, ht, hu⟩
      have bx : ∀ R, qMC (d + 3) 46 [.ref 46] h1 R ↔ R = (some (.long (lZ ((wN bs i t 0 : Int) * wN bs i t 1 * wN bs i t 2 * wN bs i t 3))), h1) := fun R => x_boxPlaces (d := d + 1) s1 L1
      have bd : ∀ k, k < 4 → wdW bs i t k = (wN bs i t k : Int) := fun k hk => (box_b P ht hk).2.1.1
      have pe : (wN bs i t 0 : Int) * wN bs i t 1 * wN bs i t 2 * wN bs i t 3 = pdW bs i t 4 := by
        show _ = 1 * wdW bs i t 0 * wdW bs i t 1 * wdW bs i t 2 * wdW bs i t 3
        rw [bd 0 (by decide), bd 1 (by decide), bd 2 (by decide), bd 3 (by decide), Int.one_mul]
      have pb : lB (pdW bs i t 4) := by
        rw [← pe]
        have w0 := (box_b P ht (show 0 < 4 by decide)).2.1.2
        have w1 := (box_b P ht (show 1 < 4 by decide)).2.1.2
        have w2 := (box_b P ht (show 2 < 4 by decide)).2.1.2
        have w3 := (box_b P ht (show 3 < 4 by decide)).2.1.2
        have m1 := mul_b (A := 7993) (B := 7993) (x := (wN bs i t 0 : Int)) (y := (wN bs i t 1 : Int)) (by omega) (by omega)
        have m2 := mul_b (A := 7993 * 7993) (B := 7993) (x := (wN bs i t 0 : Int) * wN bs i t 1) (y := (wN bs i t 2 : Int)) (by omega) (by omega)
        have m3 := mul_b (A := 7993 * 7993 * 7993) (B := 7993) (x := (wN bs i t 0 : Int) * wN bs i t 1 * wN bs i t 2) (y := (wN bs i t 3 : Int)) (by omega) (by omega)
        unfold lB; omega
      rw [pe] at bx
      have l20 : lB 20000 := by unfold lB; omega
      have k1 := lZ_lt l20 pb
      have k2 := lZ_le pb l20
      rcases hv with ⟨hb, rfl⟩ | ⟨N, hN, eN, Qv, pl, rfl⟩
      · refine ⟨h1, fun R => ?_, c1.mono (by decide) (by decide) (Nat.le_refl _)⟩
        simp (disch := first | assumption | omega) only [e170_0, e170_1, e170_2, e170_5, e170_7, e170_9, e170_9N, e170_12, e170_15, e170_16, e170_17, e170_18, e170_21, e170_22, e170_23, e170_26, e170_27, e170_30, e170_31, e170_32, e170_35, e170_38, e170_39, e170_40, e170_43, e170_45, e170_46, e170_47, e170_50, e170_51, e170_54, e170_57, e170_60, e170_61, e170_64, e170_67, e170_70, e170_71, e170_74, e170_77, m170, ↓reduceIte, qg_0, qg_1, qg_2, qg_3, qg_4, qg_5, qg_6, qg_7, qg_8, qg_9, qg_10, qg_11, qg_12, qg_13, not_true_eq_false, not_false_eq_true, Nat.reduceBEq, Bool.false_eq_true, ex1, ex3, ex4, exF, qfit_i, qfit_l, qfit_r, qfit_n, qfit_b0, qfit_b1, qcat_i, qcat_r, qcat_n, qcat_l, qroom_0, qroom_c, List.map_cons, List.map_nil, List.sum_cons, List.sum_nil, Nat.reduceAdd, Nat.reduceMul, Nat.reduceLT, Nat.reduceLeDiff, Nat.reduceEqDiff, Nat.reduceSub, decide_true, true_and, and_true, and_self, if_true, if_false, Option.toList_some, Option.toList_none, List.cons_append, List.nil_append, qsL, qlong, List.length_cons, List.length_nil, iN_L, exI, iN_add, iN_mul, iN_le, iN_lt, iN_eq, Nat.le_refl, qfN0, qfN1, uX_16, vX_16, uX_19, vX_19, uX_27, vX_27, uX_30, vX_30, uX_39, vX_39, uX_41, vX_41, uX_43, vX_43, uX_46, vX_46, uX_50, vX_50, uX_53, vX_53, b, show ¬ t < 1 by omega, show ¬ 4 < t by omega, show 1 ≤ t by omega, show t ≤ 4 by omega, show ¬ u < 0 by omega, hu, gX_16_10, r1, gX_16_10 s1, bx, lgN_gt, lgN_le, show (20000 : Int64) = lZ 20000 from rfl, k1, k2, hb, show ¬ pdW bs i t 4 ≤ 20000 by omega]
      · obtain ⟨-, ew⟩ := wh_box P ok so V pl ht hu eN
        obtain ⟨h2, r2, c2⟩ := x_countPlaces (d := d) s1 L1 (S.kp ks P) P (V.kp ks) P.fl
        rw [← ew] at r2
        refine ⟨h2, fun R => ?_, (c1.mono (by decide) (by decide) (Nat.le_refl _)).trans0 (c2.mono (by decide) (by intro _ z; cases z) (Nat.le_refl _))⟩
        simp (disch := first | assumption | omega) only [e170_0, e170_1, e170_2, e170_5, e170_7, e170_9, e170_9N, e170_12, e170_15, e170_16, e170_17, e170_18, e170_21, e170_22, e170_23, e170_26, e170_27, e170_30, e170_31, e170_32, e170_35, e170_38, e170_39, e170_40, e170_43, e170_45, e170_46, e170_47, e170_50, e170_51, e170_54, e170_57, e170_60, e170_61, e170_64, e170_67, e170_70, e170_71, e170_74, e170_77, m170, ↓reduceIte, qg_0, qg_1, qg_2, qg_3, qg_4, qg_5, qg_6, qg_7, qg_8, qg_9, qg_10, qg_11, qg_12, qg_13, not_true_eq_false, not_false_eq_true, Nat.reduceBEq, Bool.false_eq_true, ex1, ex3, ex4, exF, qfit_i, qfit_l, qfit_r, qfit_n, qfit_b0, qfit_b1, qcat_i, qcat_r, qcat_n, qcat_l, qroom_0, qroom_c, List.map_cons, List.map_nil, List.sum_cons, List.sum_nil, Nat.reduceAdd, Nat.reduceMul, Nat.reduceLT, Nat.reduceLeDiff, Nat.reduceEqDiff, Nat.reduceSub, decide_true, true_and, and_true, and_self, if_true, if_false, Option.toList_some, Option.toList_none, List.cons_append, List.nil_append, qsL, qlong, List.length_cons, List.length_nil, iN_L, exI, iN_add, iN_mul, iN_le, iN_lt, iN_eq, Nat.le_refl, qfN0, qfN1, uX_16, vX_16, uX_19, vX_19, uX_27, vX_27, uX_30, vX_30, uX_39, vX_39, uX_41, vX_41, uX_43, vX_43, uX_46, vX_46, uX_50, vX_50, uX_53, vX_53, b, show ¬ t < 1 by omega, show ¬ 4 < t by omega, show 1 ≤ t by omega, show t ≤ 4 by omega, show ¬ u < 0 by omega, hu, gX_16_10, r1, gX_16_10 s1, bx, lgN_gt, lgN_le, show (20000 : Int64) = lZ 20000 from rfl, k1, k2, show ¬ 20000 < pdW bs i t 4 by omega, show pdW bs i t 4 ≤ 20000 by omega, r2]
end XWHOLE

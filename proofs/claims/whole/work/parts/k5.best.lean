/-! ===== THE CLASS: bestNext ===== -/
section XBEST
variable {d : Nat} {h : qH} {R : qRes}
/-- the sets of a matcher -/
def MaX (h : qH) (n : Nat) (A : List Nat) : Prop := (n ≤ 16 ∧ A.length ≤ 104) ∧ xi h 30 2 = iN n ∧ xi h 30 1 = iN A.length ∧ ∀ t, t < A.length → hi h 31 t = iN (A.getD t 0) ∧ A.getD t 0 < 2 ^ n
theorem MaX.ch {B : List Nat} {J : List (Nat × Nat)} {k n : Nat} {A : List Nat} {h' : qH} (v : MaX h n A) (c : ChX B J k h h') (s : ShX h) (h1 : 31 ∉ B) (h2 : (30, 2) ∉ J) (h3 : (30, 1) ∉ J) : MaX h' n A := ⟨v.1, (c.xi (by decide) h2).trans v.2.1, (c.xi (by decide) h3).trans v.2.2.1, fun t ht => by rw [c.hi h1 (by decide) (s.lt (by decide))]; exact v.2.2.2 t ht⟩
/-- the least that is not there -/
theorem zero_n : ∀ (n P : Nat), P < n → ∃ b, P.testBit b = false ∧ (∀ j, j < b → P.testBit j = true) ∧ wo (P + 1) P = 2 ^ b := by
  intro n
  induction n with
  | zero => intro P hP; omega
  | succ n ih =>
    intro P hP
    by_cases odd : P % 2 = 1
    · obtain ⟨b, b1, b2, b3⟩ := ih (P / 2) (by omega)
      refine ⟨b + 1, by rw [Nat.testBit_succ]; exact b1, fun j hj => ?_, Nat.eq_of_testBit_eq fun i => ?_⟩
      · cases j with
        | zero => rw [Nat.testBit_zero]; exact decide_eq_true odd
        | succ j => rw [Nat.testBit_succ]; exact b2 j (by omega)
      · rw [wo_bit, Nat.testBit_two_pow]
        cases i with
        | zero =>
          rw [Nat.testBit_zero, Nat.testBit_zero, decide_eq_false (show ¬ (P + 1) % 2 = 1 by omega), decide_eq_false (show ¬ b + 1 = 0 by omega)]; rfl
        | succ i =>
          have := congrArg (fun y => y.testBit i) b3
          simp only [wo_bit, Nat.testBit_two_pow] at this
          rw [Nat.testBit_succ, Nat.testBit_succ, show (P + 1) / 2 = P / 2 + 1 by omega, this]
          exact decide_eq_decide.mpr (by omega)
    · refine ⟨0, by rw [Nat.testBit_zero]; exact decide_eq_false odd, fun j hj => absurd hj (Nat.not_lt_zero j), Nat.eq_of_testBit_eq fun i => ?_⟩
      rw [wo_bit, Nat.testBit_two_pow]
      cases i with
      | zero => rw [Nat.testBit_zero, Nat.testBit_zero, decide_eq_true (show (P + 1) % 2 = 1 by omega), decide_eq_false odd]; rfl
      | succ i => rw [Nat.testBit_succ, Nat.testBit_succ, show (P + 1) / 2 = P / 2 by omega, decide_eq_false (show ¬ 0 = i + 1 by omega)]; cases (P / 2).testBit i <;> rfl
theorem neg_not (P : Nat) : -(iN P ^^^ -iN 1) = iN (P + 1) := by
  rw [show (iN P ^^^ -iN 1) = ~~~iN P from iN_not P]
  rw [show iN (P + 1) = iN P + iN 1 from (iN_add P 1).symm]
  apply Int32.toBitVec_inj.mp
  rw [Int32.toBitVec_neg, Int32.toBitVec_not, BitVec.neg_eq_not_add, BitVec.not_not, Int32.toBitVec_add]
  rfl
set_option maxRecDepth 100000 in
theorem x_leastNot {n P : Nat} (hn : n ≤ 16) (hP : P < 2 ^ n) (hne : P ≠ 2 ^ n - 1) : ∃ b, b < n ∧ P.testBit b = false ∧ ∀ (g : qH) R, qMC (d + 2) 178 [.int (iN P ^^^ -iN 1)] g R ↔ R = (some (.int (iN b)), g) := by
  obtain ⟨b, b1, b2, b3⟩ := zero_n (P + 1) P (by omega)
  have p16 : 2 ^ n ≤ 65536 := show _ ≤ 2 ^ 16 from Nat.pow_le_pow_right (by decide) hn
  have bn : b < n := by
    apply Classical.byContradiction
    intro z
    refine hne (Nat.eq_of_testBit_eq fun i => ?_)
    rw [Nat.testBit_two_pow_sub_one]
    by_cases hi' : i < n
    · rw [decide_eq_true hi']; exact b2 i (by omega)
    · rw [decide_eq_false hi']
      exact Nat.testBit_lt_two_pow (Nat.lt_of_lt_of_le hP (Nat.pow_le_pow_right (by decide) (by omega)))
  refine ⟨b, bn, b1, fun g R => ?_⟩
  have pb := Nat.two_pow_pos b
  have pb2 : 2 ^ b ≤ 2 ^ 15 := Nat.pow_le_pow_right (by decide) (by omega)
  have e1 : (iN P ^^^ -iN 1) &&& -(iN P ^^^ -iN 1) = iN (2 ^ b) := by
    rw [neg_not, Int32.and_comm, iN_wo', b3]
  have e2 : iN (2 ^ b) - iN 1 = iN (2 ^ b - 1) := iN_sub (by omega)
  have sb : ∀ R, qMC (d + 1) 308 [.int (iN (2 ^ b - 1))] g R ↔ R = (some (.int (iN b)), g) := fun R => by
    rw [x_bitCount (show 2 ^ b - 1 < 65536 by omega), pop_low b (by omega)]
  simp (disch := first | assumption | omega) only [e178_0, e178_1, e178_2, e178_3, e178_4, e178_5, e178_6, e178_9, m178, ↓reduceIte, qg_0, qg_1, qg_2, qg_3, qg_4, qg_5, qg_6, qg_7, qg_8, qg_9, qg_10, qg_11, qg_12, qg_13, not_true_eq_false, not_false_eq_true, Nat.reduceBEq, Bool.false_eq_true, ex1, ex3, ex4, exF, qfit_i, qfit_l, qfit_r, qfit_n, qfit_b0, qfit_b1, qcat_i, qcat_r, qcat_n, qcat_l, qroom_0, qroom_c, List.map_cons, List.map_nil, List.sum_cons, List.sum_nil, Nat.reduceAdd, Nat.reduceMul, Nat.reduceLT, Nat.reduceLeDiff, Nat.reduceEqDiff, Nat.reduceSub, decide_true, true_and, and_true, and_self, if_true, if_false, Option.toList_some, Option.toList_none, List.cons_append, List.nil_append, qsL, qlong, List.length_cons, List.length_nil, iN_L, e1, e2, sb]
set_option maxRecDepth 100000 in
theorem x_min {a b : Nat} (ha : a < 2147483648) (hb : b < 2147483648) : qMC (d + 1) 314 [.int (iN a), .int (iN b)] h R ↔ R = (some (.int (iN (if b < a then b else a))), h) := by
  by_cases q : b < a
  · rw [if_pos q]
    simp (disch := first | assumption | omega) only [e314_0, e314_1, e314_2, e314_5, e314_6, e314_9, e314_10, m314, ↓reduceIte, qg_0, qg_1, qg_2, qg_3, qg_4, qg_5, qg_6, qg_7, qg_8, qg_9, qg_10, qg_11, qg_12, qg_13, not_true_eq_false, not_false_eq_true, Nat.reduceBEq, Bool.false_eq_true, ex1, ex3, ex4, exF, qfit_i, qfit_l, qfit_r, qfit_n, qfit_b0, qfit_b1, qcat_i, qcat_r, qcat_n, qcat_l, qroom_0, qroom_c, List.map_cons, List.map_nil, List.sum_cons, List.sum_nil, Nat.reduceAdd, Nat.reduceMul, Nat.reduceLT, Nat.reduceLeDiff, Nat.reduceEqDiff, Nat.reduceSub, decide_true, true_and, and_true, and_self, if_true, if_false, Option.toList_some, Option.toList_none, List.cons_append, List.nil_append, qsL, qlong, List.length_cons, List.length_nil, iN_L, exI, iN_add, iN_mul, iN_le, iN_lt, iN_eq, Nat.le_refl, qfN0, qfN1, uX_16, vX_16, uX_19, vX_19, uX_27, vX_27, uX_30, vX_30, uX_39, vX_39, uX_41, vX_41, uX_43, vX_43, uX_46, vX_46, uX_50, vX_50, uX_53, vX_53, q]
  · rw [if_neg q]
    simp (disch := first | assumption | omega) only [e314_0, e314_1, e314_2, e314_5, e314_6, e314_9, e314_10, m314, ↓reduceIte, qg_0, qg_1, qg_2, qg_3, qg_4, qg_5, qg_6, qg_7, qg_8, qg_9, qg_10, qg_11, qg_12, qg_13, not_true_eq_false, not_false_eq_true, Nat.reduceBEq, Bool.false_eq_true, ex1, ex3, ex4, exF, qfit_i, qfit_l, qfit_r, qfit_n, qfit_b0, qfit_b1, qcat_i, qcat_r, qcat_n, qcat_l, qroom_0, qroom_c, List.map_cons, List.map_nil, List.sum_cons, List.sum_nil, Nat.reduceAdd, Nat.reduceMul, Nat.reduceLT, Nat.reduceLeDiff, Nat.reduceEqDiff, Nat.reduceSub, decide_true, true_and, and_true, and_self, if_true, if_false, Option.toList_some, Option.toList_none, List.cons_append, List.nil_append, qsL, qlong, List.length_cons, List.length_nil, iN_L, exI, iN_add, iN_mul, iN_le, iN_lt, iN_eq, Nat.le_refl, qfN0, qfN1, uX_16, vX_16, uX_19, vX_19, uX_27, vX_27, uX_30, vX_30, uX_39, vX_39, uX_41, vX_41, uX_43, vX_43, uX_46, vX_46, uX_50, vX_50, uX_53, vX_53, q]
set_option maxRecDepth 100000 in
set_option maxHeartbeats 16000000 in
theorem x_best {n P : Nat} {A : List Nat} (s : ShX h) (v : MaX h n A) (hP : P < 2 ^ n) (hne : P ≠ 2 ^ n - 1) : ∃ b h', b < n ∧ P.testBit b = false ∧ (∀ R, qMC (d + 3) 55 [.ref 30, .int (iN P)] h R ↔ R = (some (.int (iN b)), h')) ∧ ChX [38] [] 0 h h' := by
  obtain ⟨⟨n16, l104⟩, m2, m1', va⟩ := v
  have p16 : 2 ^ n ≤ 65536 := show _ ≤ 2 ^ 16 from Nat.pow_le_pow_right (by decide) n16
  have k38 := kX_38 s
  have cG : ∀ G, ChX [38] [] 0 h (sI h 38 G) := fun G => ChX.rowI s k38 (by decide) (by decide)
  have sG : ∀ G, ShX (sI h 38 G) := fun G => (cG G).sh
  have x2 : ∀ G, xi (sI h 38 G) 30 2 = iN n := fun G => by unfold xi; rw [hf_sI k38]; exact m2
  have x1 : ∀ G, xi (sI h 38 G) 30 1 = iN A.length := fun G => by unfold xi; rw [hf_sI k38]; exact m1'
  have ra : ∀ G t, t < A.length → qiald (sI h 38 G) 31 (iN t) = some (iN (A.getD t 0)) := fun G t ht => by rw [rX_31 (sG G) (by omega), hi_sI, if_neg (by decide), (va t ht).1]
  have rs : ∀ G c, c < 16 → qiald (sI h 38 G) 38 (iN c) = some (G c) := fun G c hc => by rw [rX_38 (sG G) hc, hi_sI, if_pos rfl]
  have ws : ∀ G c z, c < 16 → qiast (sI h 38 G) 38 (iN c) z = some (sI h 38 (upd G c z)) := fun G c z hc => by rw [wX_38 (sG G) hc, sI_sI, hi_sI, if_pos rfl]
  -- the scores
  have row : ∀ (t : Nat) (G : Nat → Int32) (y3 y4 : Option Value), t < A.length → ∃ G' z3 z4, ∀ R, qEv (d + 2) 0 qk_55 10 [some (.ref 30), some (.int (iN P)), some (.int (iN t)), y3, y4] [] (sI h 38 G) R ↔ qEv (d + 2) 0 qk_55 10 [some (.ref 30), some (.int (iN P)), some (.int (iN (t + 1))), z3, z4] [] (sI h 38 G') R := by
    intro t G y3 y4 ht
    have hA := (va t ht).2
    have al : A.getD t 0 &&& P ≤ A.getD t 0 := Nat.and_le_left
    have wl := wo_le (A.getD t 0) P
    obtain ⟨j, ej⟩ : ∃ j, j = if pop (A.getD t 0 &&& P) 24 < 8 then pop (A.getD t 0 &&& P) 24 else 8 := ⟨_, rfl⟩
    have j8 : j ≤ 8 := by rw [ej]; split <;> omega
    have pl := pop_le (A.getD t 0 &&& P) 24
    have sb : ∀ R, qMC (d + 2) 308 [.int (iN (A.getD t 0 &&& P))] (sI h 38 G) R ↔ R = (some (.int (iN (pop (A.getD t 0 &&& P) 24))), sI h 38 G) := fun R => x_bitCount (by omega)
    have mn : ∀ R, qMC (d + 2) 314 [.int (iN 8), .int (iN (pop (A.getD t 0 &&& P) 24))] (sI h 38 G) R ↔ R = (some (.int (iN j)), sI h 38 G) := fun R => by
      rw [x_min (by decide) (by omega), ej]
    have sh : iN 1 <<< (iN (2 * j) &&& iN 31) = iN (2 ^ (2 * j)) := iN_shl1 (2 * j) (by omega)
    have sg := sG G
    have xg := x1 G
    have rg := ra G t ht
    obtain ⟨W, eW⟩ : ∃ W, W = iN (2 ^ (2 * j)) := ⟨_, rfl⟩
    rw [← eW] at sh
    have hw : wo (A.getD t 0) P < 65536 := by omega
    have lp := fun R => (loop_mem (d := d + 2) (rt := 0) (K := qk_55) (pc := 51) (R := R) (α := Nat → Int32) (L := fun rest _ => [some (.ref 30), some (.int (iN P)), some (.int (iN t)), some (.int W), some (.int (iN rest))]) (H := fun G => sI h 38 G) (f := fun G c => upd G c (G c + W)) (I := fun _ => True) (P := fun c => c < 16) (fun c ms G hin hc _ => by
      have sl : ∀ R, qMC (d + 2) 178 [.int (iN (stL (c :: ms)))] (sI h 38 G) R ↔ R = (some (.int (iN c)), sI h 38 G) := fun R => x_least hin
      have sd := stL_drop hin
      have sn := stL_ne hin
      have sg' := sG G
      have r1 := rs G c hc
      have w1 := ws G c (G c + W) hc
      refine ⟨trivial, ?_⟩
      try dsimp only
      rw [e55_51]
      simp (disch := first | assumption | omega) only [e55_0, e55_1, e55_4, e55_5, e55_8, e55_9, e55_10, e55_11, e55_12, e55_15, e55_18, e55_19, e55_20, e55_22, e55_23, e55_26, e55_27, e55_28, e55_29, e55_30, e55_33, e55_36, e55_37, e55_38, e55_39, e55_40, e55_43, e55_44, e55_45, e55_46, e55_47, e55_48, e55_49, e55_53, e55_56, e55_57, e55_60, e55_62, e55_65, e55_66, e55_67, e55_68, e55_69, e55_70, e55_72, e55_74, e55_75, e55_76, e55_77, e55_79, e55_82, e55_85, e55_88, e55_89, e55_90, e55_91, e55_94, e55_95, e55_96, e55_97, e55_98, e55_99, e55_102, e55_105, e55_106, e55_107, e55_108, e55_109, e55_110, e55_113, e55_114, e55_117, e55_118, e55_119, e55_120, e55_123, e55_124, e55_125, e55_128, e55_129, e55_130, e55_133, e55_136, e55_137, m55, ↓reduceIte, qg_0, qg_1, qg_2, qg_3, qg_4, qg_5, qg_6, qg_7, qg_8, qg_9, qg_10, qg_11, qg_12, qg_13, not_true_eq_false, not_false_eq_true, Nat.reduceBEq, Bool.false_eq_true, ex1, ex3, ex4, exF, qfit_i, qfit_l, qfit_r, qfit_n, qfit_b0, qfit_b1, qcat_i, qcat_r, qcat_n, qcat_l, qroom_0, qroom_c, List.map_cons, List.map_nil, List.sum_cons, List.sum_nil, Nat.reduceAdd, Nat.reduceMul, Nat.reduceLT, Nat.reduceLeDiff, Nat.reduceEqDiff, Nat.reduceSub, decide_true, true_and, and_true, and_self, if_true, if_false, Option.toList_some, Option.toList_none, List.cons_append, List.nil_append, qsL, qlong, List.length_cons, List.length_nil, iN_L, exI, iN_add, iN_mul, iN_le, iN_lt, iN_eq, Nat.le_refl, qfN0, qfN1, uX_16, vX_16, uX_19, vX_19, uX_27, vX_27, uX_30, vX_30, uX_39, vX_39, uX_41, vX_41, uX_43, vX_43, uX_46, vX_46, uX_50, vX_50, uX_53, vX_53, sn, gX_30_11, sl, r1, w1, sd]) (mems (wo (A.getD t 0) P)) G (mems_in _) (fun c hc => (mems_in _).2 c hc) trivial).2
    try dsimp only at lp
    rw [stL_mems hw] at lp
    refine ⟨(mems (wo (A.getD t 0) P)).foldl (fun G c => upd G c (G c + W)) G, some (.int W), some (.int (iN 0)), fun R => ?_⟩
    have st : qEv (d + 2) 0 qk_55 10 [some (.ref 30), some (.int (iN P)), some (.int (iN t)), y3, y4] [] (sI h 38 G) R ↔ qEv (d + 2) 0 qk_55 51 [some (.ref 30), some (.int (iN P)), some (.int (iN t)), some (.int W), some (.int (iN (wo (A.getD t 0) P)))] [] (sI h 38 G) R := by
      rw [e55_10]
      simp (disch := first | assumption | omega) only [e55_0, e55_1, e55_4, e55_5, e55_8, e55_9, e55_11, e55_12, e55_15, e55_18, e55_19, e55_20, e55_22, e55_23, e55_26, e55_27, e55_28, e55_29, e55_30, e55_33, e55_36, e55_37, e55_38, e55_39, e55_40, e55_43, e55_44, e55_45, e55_46, e55_47, e55_48, e55_49, e55_53, e55_56, e55_57, e55_60, e55_62, e55_65, e55_66, e55_67, e55_68, e55_69, e55_70, e55_72, e55_74, e55_75, e55_76, e55_77, e55_79, e55_82, e55_85, e55_88, e55_89, e55_90, e55_91, e55_94, e55_95, e55_96, e55_97, e55_98, e55_99, e55_102, e55_105, e55_106, e55_107, e55_108, e55_109, e55_110, e55_113, e55_114, e55_117, e55_118, e55_119, e55_120, e55_123, e55_124, e55_125, e55_128, e55_129, e55_130, e55_133, e55_136, e55_137, m55, ↓reduceIte, qg_0, qg_1, qg_2, qg_3, qg_4, qg_5, qg_6, qg_7, qg_8, qg_9, qg_10, qg_11, qg_12, qg_13, not_true_eq_false, not_false_eq_true, Nat.reduceBEq, Bool.false_eq_true, ex1, ex3, ex4, exF, qfit_i, qfit_l, qfit_r, qfit_n, qfit_b0, qfit_b1, qcat_i, qcat_r, qcat_n, qcat_l, qroom_0, qroom_c, List.map_cons, List.map_nil, List.sum_cons, List.sum_nil, Nat.reduceAdd, Nat.reduceMul, Nat.reduceLT, Nat.reduceLeDiff, Nat.reduceEqDiff, Nat.reduceSub, decide_true, true_and, and_true, and_self, if_true, if_false, Option.toList_some, Option.toList_none, List.cons_append, List.nil_append, qsL, qlong, List.length_cons, List.length_nil, iN_L, exI, iN_add, iN_mul, iN_le, iN_lt, iN_eq, Nat.le_refl, qfN0, qfN1, uX_16, vX_16, uX_19, vX_19, uX_27, vX_27, uX_30, vX_30, uX_39, vX_39, uX_41, vX_41, uX_43, vX_43, uX_46, vX_46, uX_50, vX_50, uX_53, vX_53, gX_30_1, xg, show ¬ A.length ≤ t by omega, gX_30_0, rg, iN_and (A.getD t 0) P, sb, mn, sh, iN_wo']
    rw [st, lp R, e55_51]
    simp (disch := first | assumption | omega) only [e55_0, e55_1, e55_4, e55_5, e55_8, e55_9, e55_11, e55_12, e55_15, e55_18, e55_19, e55_20, e55_22, e55_23, e55_26, e55_27, e55_28, e55_29, e55_30, e55_33, e55_36, e55_37, e55_38, e55_39, e55_40, e55_43, e55_44, e55_45, e55_46, e55_47, e55_48, e55_49, e55_53, e55_56, e55_57, e55_60, e55_62, e55_65, e55_66, e55_67, e55_68, e55_69, e55_70, e55_72, e55_74, e55_75, e55_76, e55_77, e55_79, e55_82, e55_85, e55_88, e55_89, e55_90, e55_91, e55_94, e55_95, e55_96, e55_97, e55_98, e55_99, e55_102, e55_105, e55_106, e55_107, e55_108, e55_109, e55_110, e55_113, e55_114, e55_117, e55_118, e55_119, e55_120, e55_123, e55_124, e55_125, e55_128, e55_129, e55_130, e55_133, e55_136, e55_137, m55, ↓reduceIte, qg_0, qg_1, qg_2, qg_3, qg_4, qg_5, qg_6, qg_7, qg_8, qg_9, qg_10, qg_11, qg_12, qg_13, not_true_eq_false, not_false_eq_true, Nat.reduceBEq, Bool.false_eq_true, ex1, ex3, ex4, exF, qfit_i, qfit_l, qfit_r, qfit_n, qfit_b0, qfit_b1, qcat_i, qcat_r, qcat_n, qcat_l, qroom_0, qroom_c, List.map_cons, List.map_nil, List.sum_cons, List.sum_nil, Nat.reduceAdd, Nat.reduceMul, Nat.reduceLT, Nat.reduceLeDiff, Nat.reduceEqDiff, Nat.reduceSub, decide_true, true_and, and_true, and_self, if_true, if_false, Option.toList_some, Option.toList_none, List.cons_append, List.nil_append, qsL, qlong, List.length_cons, List.length_nil, iN_L, exI, iN_add, iN_mul, iN_le, iN_lt, iN_eq, Nat.le_refl, qfN0, qfN1, uX_16, vX_16, uX_19, vX_19, uX_27, vX_27, uX_30, vX_30, uX_39, vX_39, uX_41, vX_41, uX_43, vX_43, uX_46, vX_46, uX_50, vX_50, uX_53, vX_53, stL_nil]
    exact Iff.rfl
  have rows : ∀ (w t : Nat) (G : Nat → Int32) (y3 y4 : Option Value), t + w = A.length → ∃ G' z3 z4, ∀ R, qEv (d + 2) 0 qk_55 10 [some (.ref 30), some (.int (iN P)), some (.int (iN t)), y3, y4] [] (sI h 38 G) R ↔ qEv (d + 2) 0 qk_55 10 [some (.ref 30), some (.int (iN P)), some (.int (iN A.length)), z3, z4] [] (sI h 38 G') R := by
    intro w
    induction w with
    | zero => intro t G y3 y4 ht; rw [show t = A.length by omega]; exact ⟨G, y3, y4, fun R => Iff.rfl⟩
    | succ w ih =>
      intro t G y3 y4 ht
      obtain ⟨G1, a3, a4, r1⟩ := row t G y3 y4 (by omega)
      obtain ⟨G2, c3, c4, r2⟩ := ih (t + 1) G1 a3 a4 (by omega)
      exact ⟨G2, c3, c4, fun R => (r1 R).trans (r2 R)⟩
  obtain ⟨b0, bn0, bp0, lb⟩ := x_leastNot (d := d) n16 hP hne
  obtain ⟨G, z3, z4, rG⟩ := rows A.length 0 (fun c => if c < 16 then iN 0 else hi h 38 c) none none (by omega)
  have sg := sG G
  have xg1 := x1 G
  have xg2 := x2 G
  have pick : ∀ (w c b : Nat), c + w = n → b < n → P.testBit b = false → ∃ b', b' < n ∧ P.testBit b' = false ∧ ∀ R, qEv (d + 2) 0 qk_55 97 [some (.ref 30), some (.int (iN P)), some (.int (iN b)), some (.int (iN c)), z4] [] (sI h 38 G) R ↔ R = (some (.int (iN b')), sI h 38 G) := by
    intro w
    induction w with
    | zero =>
      intro c b hc hb hp
      refine ⟨b, hb, hp, fun R => ?_⟩
      rw [e55_97]
      simp (disch := first | assumption | omega) only [e55_0, e55_1, e55_4, e55_5, e55_8, e55_9, e55_10, e55_11, e55_12, e55_15, e55_18, e55_19, e55_20, e55_22, e55_23, e55_26, e55_27, e55_28, e55_29, e55_30, e55_33, e55_36, e55_37, e55_38, e55_39, e55_40, e55_43, e55_44, e55_45, e55_46, e55_47, e55_48, e55_49, e55_51, e55_53, e55_56, e55_57, e55_60, e55_62, e55_65, e55_66, e55_67, e55_68, e55_69, e55_70, e55_72, e55_74, e55_75, e55_76, e55_77, e55_79, e55_82, e55_85, e55_88, e55_89, e55_90, e55_91, e55_94, e55_95, e55_96, e55_98, e55_99, e55_102, e55_105, e55_106, e55_107, e55_108, e55_109, e55_110, e55_113, e55_114, e55_117, e55_118, e55_119, e55_120, e55_123, e55_124, e55_125, e55_128, e55_129, e55_130, e55_133, e55_136, e55_137, m55, ↓reduceIte, qg_0, qg_1, qg_2, qg_3, qg_4, qg_5, qg_6, qg_7, qg_8, qg_9, qg_10, qg_11, qg_12, qg_13, not_true_eq_false, not_false_eq_true, Nat.reduceBEq, Bool.false_eq_true, ex1, ex3, ex4, exF, qfit_i, qfit_l, qfit_r, qfit_n, qfit_b0, qfit_b1, qcat_i, qcat_r, qcat_n, qcat_l, qroom_0, qroom_c, List.map_cons, List.map_nil, List.sum_cons, List.sum_nil, Nat.reduceAdd, Nat.reduceMul, Nat.reduceLT, Nat.reduceLeDiff, Nat.reduceEqDiff, Nat.reduceSub, decide_true, true_and, and_true, and_self, if_true, if_false, Option.toList_some, Option.toList_none, List.cons_append, List.nil_append, qsL, qlong, List.length_cons, List.length_nil, iN_L, exI, iN_add, iN_mul, iN_le, iN_lt, iN_eq, Nat.le_refl, qfN0, qfN1, uX_16, vX_16, uX_19, vX_19, uX_27, vX_27, uX_30, vX_30, uX_39, vX_39, uX_41, vX_41, uX_43, vX_43, uX_46, vX_46, uX_50, vX_50, uX_53, vX_53, gX_30_2, xg2, show n ≤ c by omega]
    | succ w ih =>
      intro c b hc hb hp
      have c32 : c < 32 := by omega
      have Pl : P < 2147483648 := by omega
      have rb := rs G b (by omega)
      have rc := rs G c (by omega)
      cases q : P.testBit c with
      | true =>
        obtain ⟨b', h1, h2, h3⟩ := ih (c + 1) b (by omega) hb hp
        refine ⟨b', h1, h2, fun R => ?_⟩
        rw [← h3 R, e55_97]
        simp (disch := first | assumption | omega) only [e55_0, e55_1, e55_4, e55_5, e55_8, e55_9, e55_10, e55_11, e55_12, e55_15, e55_18, e55_19, e55_20, e55_22, e55_23, e55_26, e55_27, e55_28, e55_29, e55_30, e55_33, e55_36, e55_37, e55_38, e55_39, e55_40, e55_43, e55_44, e55_45, e55_46, e55_47, e55_48, e55_49, e55_51, e55_53, e55_56, e55_57, e55_60, e55_62, e55_65, e55_66, e55_67, e55_68, e55_69, e55_70, e55_72, e55_74, e55_75, e55_76, e55_77, e55_79, e55_82, e55_85, e55_88, e55_89, e55_90, e55_91, e55_94, e55_95, e55_96, e55_98, e55_99, e55_102, e55_105, e55_106, e55_107, e55_108, e55_109, e55_110, e55_113, e55_114, e55_117, e55_118, e55_119, e55_120, e55_123, e55_124, e55_125, e55_128, e55_129, e55_130, e55_133, e55_136, e55_137, m55, ↓reduceIte, qg_0, qg_1, qg_2, qg_3, qg_4, qg_5, qg_6, qg_7, qg_8, qg_9, qg_10, qg_11, qg_12, qg_13, not_true_eq_false, not_false_eq_true, Nat.reduceBEq, Bool.false_eq_true, ex1, ex3, ex4, exF, qfit_i, qfit_l, qfit_r, qfit_n, qfit_b0, qfit_b1, qcat_i, qcat_r, qcat_n, qcat_l, qroom_0, qroom_c, List.map_cons, List.map_nil, List.sum_cons, List.sum_nil, Nat.reduceAdd, Nat.reduceMul, Nat.reduceLT, Nat.reduceLeDiff, Nat.reduceEqDiff, Nat.reduceSub, decide_true, true_and, and_true, and_self, if_true, if_false, Option.toList_some, Option.toList_none, List.cons_append, List.nil_append, qsL, qlong, List.length_cons, List.length_nil, iN_L, exI, iN_add, iN_mul, iN_le, iN_lt, iN_eq, Nat.le_refl, qfN0, qfN1, uX_16, vX_16, uX_19, vX_19, uX_27, vX_27, uX_30, vX_30, uX_39, vX_39, uX_41, vX_41, uX_43, vX_43, uX_46, vX_46, uX_50, vX_50, uX_53, vX_53, gX_30_2, xg2, show ¬ n ≤ c by omega, bit1 Pl c32 q, iN10]
      | false =>
        by_cases z : G c ≤ G b
        · obtain ⟨b', h1, h2, h3⟩ := ih (c + 1) b (by omega) hb hp
          refine ⟨b', h1, h2, fun R => ?_⟩
          rw [← h3 R, e55_97]
          simp (disch := first | assumption | omega) only [e55_0, e55_1, e55_4, e55_5, e55_8, e55_9, e55_10, e55_11, e55_12, e55_15, e55_18, e55_19, e55_20, e55_22, e55_23, e55_26, e55_27, e55_28, e55_29, e55_30, e55_33, e55_36, e55_37, e55_38, e55_39, e55_40, e55_43, e55_44, e55_45, e55_46, e55_47, e55_48, e55_49, e55_51, e55_53, e55_56, e55_57, e55_60, e55_62, e55_65, e55_66, e55_67, e55_68, e55_69, e55_70, e55_72, e55_74, e55_75, e55_76, e55_77, e55_79, e55_82, e55_85, e55_88, e55_89, e55_90, e55_91, e55_94, e55_95, e55_96, e55_98, e55_99, e55_102, e55_105, e55_106, e55_107, e55_108, e55_109, e55_110, e55_113, e55_114, e55_117, e55_118, e55_119, e55_120, e55_123, e55_124, e55_125, e55_128, e55_129, e55_130, e55_133, e55_136, e55_137, m55, ↓reduceIte, qg_0, qg_1, qg_2, qg_3, qg_4, qg_5, qg_6, qg_7, qg_8, qg_9, qg_10, qg_11, qg_12, qg_13, not_true_eq_false, not_false_eq_true, Nat.reduceBEq, Bool.false_eq_true, ex1, ex3, ex4, exF, qfit_i, qfit_l, qfit_r, qfit_n, qfit_b0, qfit_b1, qcat_i, qcat_r, qcat_n, qcat_l, qroom_0, qroom_c, List.map_cons, List.map_nil, List.sum_cons, List.sum_nil, Nat.reduceAdd, Nat.reduceMul, Nat.reduceLT, Nat.reduceLeDiff, Nat.reduceEqDiff, Nat.reduceSub, decide_true, true_and, and_true, and_self, if_true, if_false, Option.toList_some, Option.toList_none, List.cons_append, List.nil_append, qsL, qlong, List.length_cons, List.length_nil, iN_L, exI, iN_add, iN_mul, iN_le, iN_lt, iN_eq, Nat.le_refl, qfN0, qfN1, uX_16, vX_16, uX_19, vX_19, uX_27, vX_27, uX_30, vX_30, uX_39, vX_39, uX_41, vX_41, uX_43, vX_43, uX_46, vX_46, uX_50, vX_50, uX_53, vX_53, gX_30_2, xg2, show ¬ n ≤ c by omega, bit0 Pl c32 q, gX_30_11, rb, rc, z]
        · obtain ⟨b', h1, h2, h3⟩ := ih (c + 1) c (by omega) (by omega) q
          refine ⟨b', h1, h2, fun R => ?_⟩
          rw [← h3 R, e55_97]
          simp (disch := first | assumption | omega) only [e55_0, e55_1, e55_4, e55_5, e55_8, e55_9, e55_10, e55_11, e55_12, e55_15, e55_18, e55_19, e55_20, e55_22, e55_23, e55_26, e55_27, e55_28, e55_29, e55_30, e55_33, e55_36, e55_37, e55_38, e55_39, e55_40, e55_43, e55_44, e55_45, e55_46, e55_47, e55_48, e55_49, e55_51, e55_53, e55_56, e55_57, e55_60, e55_62, e55_65, e55_66, e55_67, e55_68, e55_69, e55_70, e55_72, e55_74, e55_75, e55_76, e55_77, e55_79, e55_82, e55_85, e55_88, e55_89, e55_90, e55_91, e55_94, e55_95, e55_96, e55_98, e55_99, e55_102, e55_105, e55_106, e55_107, e55_108, e55_109, e55_110, e55_113, e55_114, e55_117, e55_118, e55_119, e55_120, e55_123, e55_124, e55_125, e55_128, e55_129, e55_130, e55_133, e55_136, e55_137, m55, ↓reduceIte, qg_0, qg_1, qg_2, qg_3, qg_4, qg_5, qg_6, qg_7, qg_8, qg_9, qg_10, qg_11, qg_12, qg_13, not_true_eq_false, not_false_eq_true, Nat.reduceBEq, Bool.false_eq_true, ex1, ex3, ex4, exF, qfit_i, qfit_l, qfit_r, qfit_n, qfit_b0, qfit_b1, qcat_i, qcat_r, qcat_n, qcat_l, qroom_0, qroom_c, List.map_cons, List.map_nil, List.sum_cons, List.sum_nil, Nat.reduceAdd, Nat.reduceMul, Nat.reduceLT, Nat.reduceLeDiff, Nat.reduceEqDiff, Nat.reduceSub, decide_true, true_and, and_true, and_self, if_true, if_false, Option.toList_some, Option.toList_none, List.cons_append, List.nil_append, qsL, qlong, List.length_cons, List.length_nil, iN_L, exI, iN_add, iN_mul, iN_le, iN_lt, iN_eq, Nat.le_refl, qfN0, qfN1, uX_16, vX_16, uX_19, vX_19, uX_27, vX_27, uX_30, vX_30, uX_39, vX_39, uX_41, vX_41, uX_43, vX_43, uX_46, vX_46, uX_50, vX_50, uX_53, vX_53, gX_30_2, xg2, show ¬ n ≤ c by omega, bit0 Pl c32 q, gX_30_11, rb, rc, z]
  obtain ⟨b', h1, h2, h3⟩ := pick n 0 b0 (by omega) bn0 bp0
  have fl : ∀ R, qMC (d + 2) 317 [.ref 38, .int (iN 0)] h R ↔ R = (none, sI h 38 (fun c => if c < 16 then iN 0 else hi h 38 c)) := fun R => x_fillI k38
  have lbG := lb (sI h 38 G)
  refine ⟨b', sI h 38 G, h1, h2, fun R => ?_, cG G⟩
  have r0 : qMC (d + 3) 55 [.ref 30, .int (iN P)] h R ↔ qEv (d + 2) 0 qk_55 10 [some (.ref 30), some (.int (iN P)), some (.int (iN 0)), none, none] [] (sI h 38 (fun c => if c < 16 then iN 0 else hi h 38 c)) R := by
    simp (disch := first | assumption | omega) only [e55_0, e55_1, e55_4, e55_5, e55_8, e55_9, e55_11, e55_12, e55_15, e55_18, e55_19, e55_20, e55_22, e55_23, e55_26, e55_27, e55_28, e55_29, e55_30, e55_33, e55_36, e55_37, e55_38, e55_39, e55_40, e55_43, e55_44, e55_45, e55_46, e55_47, e55_48, e55_49, e55_51, e55_53, e55_56, e55_57, e55_60, e55_62, e55_65, e55_66, e55_67, e55_68, e55_69, e55_70, e55_72, e55_74, e55_75, e55_76, e55_77, e55_79, e55_82, e55_85, e55_88, e55_89, e55_90, e55_91, e55_94, e55_95, e55_96, e55_97, e55_98, e55_99, e55_102, e55_105, e55_106, e55_107, e55_108, e55_109, e55_110, e55_113, e55_114, e55_117, e55_118, e55_119, e55_120, e55_123, e55_124, e55_125, e55_128, e55_129, e55_130, e55_133, e55_136, e55_137, m55, ↓reduceIte, qg_0, qg_1, qg_2, qg_3, qg_4, qg_5, qg_6, qg_7, qg_8, qg_9, qg_10, qg_11, qg_12, qg_13, not_true_eq_false, not_false_eq_true, Nat.reduceBEq, Bool.false_eq_true, ex1, ex3, ex4, exF, qfit_i, qfit_l, qfit_r, qfit_n, qfit_b0, qfit_b1, qcat_i, qcat_r, qcat_n, qcat_l, qroom_0, qroom_c, List.map_cons, List.map_nil, List.sum_cons, List.sum_nil, Nat.reduceAdd, Nat.reduceMul, Nat.reduceLT, Nat.reduceLeDiff, Nat.reduceEqDiff, Nat.reduceSub, decide_true, true_and, and_true, and_self, if_true, if_false, Option.toList_some, Option.toList_none, List.cons_append, List.nil_append, qsL, qlong, List.length_cons, List.length_nil, iN_L, exI, iN_add, iN_mul, iN_le, iN_lt, iN_eq, Nat.le_refl, qfN0, qfN1, uX_16, vX_16, uX_19, vX_19, uX_27, vX_27, uX_30, vX_30, uX_39, vX_39, uX_41, vX_41, uX_43, vX_43, uX_46, vX_46, uX_50, vX_50, uX_53, vX_53, gX_30_11, fl]
  rw [r0, rG R, ← h3 R, e55_10]
  simp (disch := first | assumption | omega) only [e55_0, e55_1, e55_4, e55_5, e55_8, e55_9, e55_11, e55_12, e55_15, e55_18, e55_19, e55_20, e55_22, e55_23, e55_26, e55_27, e55_28, e55_29, e55_30, e55_33, e55_36, e55_37, e55_38, e55_39, e55_40, e55_43, e55_44, e55_45, e55_46, e55_47, e55_48, e55_49, e55_51, e55_53, e55_56, e55_57, e55_60, e55_62, e55_65, e55_66, e55_67, e55_68, e55_69, e55_70, e55_72, e55_74, e55_75, e55_76, e55_77, e55_79, e55_82, e55_85, e55_88, e55_89, e55_90, e55_91, e55_94, e55_95, e55_96, e55_98, e55_99, e55_102, e55_105, e55_106, e55_107, e55_108, e55_109, e55_110, e55_113, e55_114, e55_117, e55_118, e55_119, e55_120, e55_123, e55_124, e55_125, e55_128, e55_129, e55_130, e55_133, e55_136, e55_137, m55, ↓reduceIte, qg_0, qg_1, qg_2, qg_3, qg_4, qg_5, qg_6, qg_7, qg_8, qg_9, qg_10, qg_11, qg_12, qg_13, not_true_eq_false, not_false_eq_true, Nat.reduceBEq, Bool.false_eq_true, ex1, ex3, ex4, exF, qfit_i, qfit_l, qfit_r, qfit_n, qfit_b0, qfit_b1, qcat_i, qcat_r, qcat_n, qcat_l, qroom_0, qroom_c, List.map_cons, List.map_nil, List.sum_cons, List.sum_nil, Nat.reduceAdd, Nat.reduceMul, Nat.reduceLT, Nat.reduceLeDiff, Nat.reduceEqDiff, Nat.reduceSub, decide_true, true_and, and_true, and_self, if_true, if_false, Option.toList_some, Option.toList_none, List.cons_append, List.nil_append, qsL, qlong, List.length_cons, List.length_nil, iN_L, exI, iN_add, iN_mul, iN_le, iN_lt, iN_eq, Nat.le_refl, qfN0, qfN1, uX_16, vX_16, uX_19, vX_19, uX_27, vX_27, uX_30, vX_30, uX_39, vX_39, uX_41, vX_41, uX_43, vX_43, uX_46, vX_46, uX_50, vX_50, uX_53, vX_53, gX_30_1, xg1, lbG]
end XBEST

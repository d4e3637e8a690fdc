/-! ===== THE CLASS: renamed, isGoal ===== -/
section XGOAL
variable {d : Nat} {h : qH} {R : qRes}
theorem ush_raw {m p : Nat} (hm : m < 2147483648) (hp : p < 32) : ((iN m).toUInt32 >>> ((iN p).toUInt32 &&& (iN 31).toUInt32)).toInt32 = iN (m >>> p) := ush_N hm hp
/-- the goal's sets, in order -/
def GoX (h : qH) (r : Nat) (Bs : List Nat) : Prop := hf h 30 5 = .ref r ∧ kI h r Bs.length ∧ Bs.length ≤ 208 ∧ (∀ k, k < Bs.length → hi h r k = iN (Bs.getD k 0) ∧ Bs.getD k 0 < 65536) ∧ ∀ a b, a < b → b < Bs.length → Bs.getD a 0 < Bs.getD b 0
set_option maxRecDepth 100000 in
set_option maxHeartbeats 16000000 in
theorem x_isGoal {r x : Nat} {Bs : List Nat} (s : ShX h) (v : GoX h r Bs) (hx : x < 2147483648) : qMC (d + 1) 59 [.ref 30, .int (iN x)] h R ↔ R = (some (.int (bB (decide (x ∈ Bs)))), h) := by
  obtain ⟨v5, kr, l8, vr, vs⟩ := v
  have g5 : qget h 30 4 5 = some (.ref r) := by rw [gX_30_5 s, v5]
  have ln := lnI kr
  have go : ∀ (n lo hg : Nat) (x4 : Option Value), hg - lo ≤ n → lo ≤ hg → hg ≤ Bs.length → (∀ t, t < lo → Bs.getD t 0 < x) → (∀ t, hg ≤ t → t < Bs.length → x ≤ Bs.getD t 0) → (qEv d 3 qk_59 8 [some (.ref 30), some (.int (iN x)), some (.int (iN lo)), some (.int (iN hg)), x4] [] h R ↔ R = (some (.int (bB (decide (x ∈ Bs)))), h)) := by
    intro n
    induction n with
    | zero =>
      intro lo hg x4 hn h1 h2 h3 h4
      have e : lo = hg := by omega
      subst e
      rw [e59_8]
      by_cases hl : lo < Bs.length
      · have rd : qiald h r (iN lo) = some (iN (Bs.getD lo 0)) := by rw [rdI kr hl, (vr lo hl).1]
        have b16 := (vr lo hl).2
        by_cases z : Bs.getD lo 0 = x
        · rw [decide_eq_true (nat_mem.mpr ⟨lo, hl, z⟩), bN_t]
          simp (disch := first | assumption | omega) only [e59_0, e59_1, e59_2, e59_3, e59_6, e59_7, e59_9, e59_10, e59_13, e59_14, e59_15, e59_16, e59_17, e59_18, e59_20, e59_21, e59_24, e59_26, e59_27, e59_28, e59_31, e59_33, e59_34, e59_35, e59_36, e59_39, e59_41, e59_42, e59_45, e59_46, e59_47, e59_50, e59_51, e59_54, e59_55, e59_58, e59_59, e59_60, e59_61, e59_64, e59_65, e59_68, e59_69, m59, ↓reduceIte, qg_0, qg_1, qg_2, qg_3, qg_4, qg_5, qg_6, qg_7, qg_8, qg_9, qg_10, qg_11, qg_12, qg_13, not_true_eq_false, not_false_eq_true, Nat.reduceBEq, Bool.false_eq_true, ex1, ex3, ex4, exF, qfit_i, qfit_l, qfit_r, qfit_n, qfit_b0, qfit_b1, qcat_i, qcat_r, qcat_n, qcat_l, qroom_0, qroom_c, List.map_cons, List.map_nil, List.sum_cons, List.sum_nil, Nat.reduceAdd, Nat.reduceMul, Nat.reduceLT, Nat.reduceLeDiff, Nat.reduceEqDiff, Nat.reduceSub, decide_true, true_and, and_true, and_self, if_true, if_false, Option.toList_some, Option.toList_none, List.cons_append, List.nil_append, qsL, qlong, List.length_cons, List.length_nil, iN_L, exI, iN_add, iN_mul, iN_le, iN_lt, iN_eq, Nat.le_refl, qfN0, qfN1, uX_16, vX_16, uX_19, vX_19, uX_27, vX_27, uX_30, vX_30, uX_39, vX_39, uX_41, vX_41, uX_43, vX_43, uX_46, vX_46, uX_50, vX_50, uX_53, vX_53, g5, ln, show ¬ Bs.length ≤ lo by omega, rd, z]
        · have nm : x ∉ Bs := fun y => by
            obtain ⟨t, t1, t2⟩ := nat_mem.mp y
            rcases Nat.lt_trichotomy t lo with w | w | w
            · have := h3 t w; omega
            · rw [w] at t2; exact z t2
            · have a1 := vs lo t w t1
              have a2 := h4 lo (Nat.le_refl _) hl
              omega
          rw [decide_eq_false nm, bN_f]
          simp (disch := first | assumption | omega) only [e59_0, e59_1, e59_2, e59_3, e59_6, e59_7, e59_9, e59_10, e59_13, e59_14, e59_15, e59_16, e59_17, e59_18, e59_20, e59_21, e59_24, e59_26, e59_27, e59_28, e59_31, e59_33, e59_34, e59_35, e59_36, e59_39, e59_41, e59_42, e59_45, e59_46, e59_47, e59_50, e59_51, e59_54, e59_55, e59_58, e59_59, e59_60, e59_61, e59_64, e59_65, e59_68, e59_69, m59, ↓reduceIte, qg_0, qg_1, qg_2, qg_3, qg_4, qg_5, qg_6, qg_7, qg_8, qg_9, qg_10, qg_11, qg_12, qg_13, not_true_eq_false, not_false_eq_true, Nat.reduceBEq, Bool.false_eq_true, ex1, ex3, ex4, exF, qfit_i, qfit_l, qfit_r, qfit_n, qfit_b0, qfit_b1, qcat_i, qcat_r, qcat_n, qcat_l, qroom_0, qroom_c, List.map_cons, List.map_nil, List.sum_cons, List.sum_nil, Nat.reduceAdd, Nat.reduceMul, Nat.reduceLT, Nat.reduceLeDiff, Nat.reduceEqDiff, Nat.reduceSub, decide_true, true_and, and_true, and_self, if_true, if_false, Option.toList_some, Option.toList_none, List.cons_append, List.nil_append, qsL, qlong, List.length_cons, List.length_nil, iN_L, exI, iN_add, iN_mul, iN_le, iN_lt, iN_eq, Nat.le_refl, qfN0, qfN1, uX_16, vX_16, uX_19, vX_19, uX_27, vX_27, uX_30, vX_30, uX_39, vX_39, uX_41, vX_41, uX_43, vX_43, uX_46, vX_46, uX_50, vX_50, uX_53, vX_53, g5, ln, show ¬ Bs.length ≤ lo by omega, rd, z]
      · have nm : x ∉ Bs := fun y => by
          obtain ⟨t, t1, t2⟩ := nat_mem.mp y
          have := h3 t (by omega)
          omega
        rw [decide_eq_false nm, bN_f]
        simp (disch := first | assumption | omega) only [e59_0, e59_1, e59_2, e59_3, e59_6, e59_7, e59_9, e59_10, e59_13, e59_14, e59_15, e59_16, e59_17, e59_18, e59_20, e59_21, e59_24, e59_26, e59_27, e59_28, e59_31, e59_33, e59_34, e59_35, e59_36, e59_39, e59_41, e59_42, e59_45, e59_46, e59_47, e59_50, e59_51, e59_54, e59_55, e59_58, e59_59, e59_60, e59_61, e59_64, e59_65, e59_68, e59_69, m59, ↓reduceIte, qg_0, qg_1, qg_2, qg_3, qg_4, qg_5, qg_6, qg_7, qg_8, qg_9, qg_10, qg_11, qg_12, qg_13, not_true_eq_false, not_false_eq_true, Nat.reduceBEq, Bool.false_eq_true, ex1, ex3, ex4, exF, qfit_i, qfit_l, qfit_r, qfit_n, qfit_b0, qfit_b1, qcat_i, qcat_r, qcat_n, qcat_l, qroom_0, qroom_c, List.map_cons, List.map_nil, List.sum_cons, List.sum_nil, Nat.reduceAdd, Nat.reduceMul, Nat.reduceLT, Nat.reduceLeDiff, Nat.reduceEqDiff, Nat.reduceSub, decide_true, true_and, and_true, and_self, if_true, if_false, Option.toList_some, Option.toList_none, List.cons_append, List.nil_append, qsL, qlong, List.length_cons, List.length_nil, iN_L, exI, iN_add, iN_mul, iN_le, iN_lt, iN_eq, Nat.le_refl, qfN0, qfN1, uX_16, vX_16, uX_19, vX_19, uX_27, vX_27, uX_30, vX_30, uX_39, vX_39, uX_41, vX_41, uX_43, vX_43, uX_46, vX_46, uX_50, vX_50, uX_53, vX_53, g5, ln, show Bs.length ≤ lo by omega]
    | succ n ih =>
      intro lo hg x4 hn h1 h2 h3 h4
      by_cases e : lo = hg
      · exact ih lo hg x4 (by omega) h1 h2 h3 h4
      · obtain ⟨mi', em⟩ : ∃ mi', mi' = (lo + hg) / 2 := ⟨_, rfl⟩
        have hm : mi' < Bs.length := by omega
        have sh : ((iN (lo + hg)).toUInt32 >>> ((iN 1).toUInt32 &&& (iN 31).toUInt32)).toInt32 = iN mi' := by rw [ush_raw (by omega) (by decide), shr1, em]
        have rd : qiald h r (iN mi') = some (iN (Bs.getD mi' 0)) := by rw [rdI kr hm, (vr mi' hm).1]
        have b16 := (vr mi' hm).2
        by_cases z : Bs.getD mi' 0 < x
        · rw [← ih (mi' + 1) hg (some (.int (iN mi'))) (by omega) (by omega) h2 (fun t ht => by
            rcases Nat.lt_or_ge t mi' with y | y
            · have := vs t mi' y hm; omega
            · rw [show t = mi' by omega]; exact z) h4, e59_8]
          simp (disch := first | assumption | omega) only [e59_0, e59_1, e59_2, e59_3, e59_6, e59_7, e59_9, e59_10, e59_13, e59_14, e59_15, e59_16, e59_17, e59_18, e59_20, e59_21, e59_24, e59_26, e59_27, e59_28, e59_31, e59_33, e59_34, e59_35, e59_36, e59_39, e59_41, e59_42, e59_45, e59_46, e59_47, e59_50, e59_51, e59_54, e59_55, e59_58, e59_59, e59_60, e59_61, e59_64, e59_65, e59_68, e59_69, m59, ↓reduceIte, qg_0, qg_1, qg_2, qg_3, qg_4, qg_5, qg_6, qg_7, qg_8, qg_9, qg_10, qg_11, qg_12, qg_13, not_true_eq_false, not_false_eq_true, Nat.reduceBEq, Bool.false_eq_true, ex1, ex3, ex4, exF, qfit_i, qfit_l, qfit_r, qfit_n, qfit_b0, qfit_b1, qcat_i, qcat_r, qcat_n, qcat_l, qroom_0, qroom_c, List.map_cons, List.map_nil, List.sum_cons, List.sum_nil, Nat.reduceAdd, Nat.reduceMul, Nat.reduceLT, Nat.reduceLeDiff, Nat.reduceEqDiff, Nat.reduceSub, decide_true, true_and, and_true, and_self, if_true, if_false, Option.toList_some, Option.toList_none, List.cons_append, List.nil_append, qsL, qlong, List.length_cons, List.length_nil, iN_L, exI, iN_add, iN_mul, iN_le, iN_lt, iN_eq, Nat.le_refl, qfN0, qfN1, uX_16, vX_16, uX_19, vX_19, uX_27, vX_27, uX_30, vX_30, uX_39, vX_39, uX_41, vX_41, uX_43, vX_43, uX_46, vX_46, uX_50, vX_50, uX_53, vX_53, show ¬ hg ≤ lo by omega, sh, g5, rd, show ¬ x ≤ Bs.getD mi' 0 by omega]
        · rw [← ih lo mi' (some (.int (iN mi'))) (by omega) (by omega) (by omega) h3 (fun t t1 t2 => by
            rcases Nat.lt_or_ge mi' t with y | y
            · have := vs mi' t y t2; omega
            · rw [show t = mi' by omega]; omega), e59_8]
          simp (disch := first | assumption | omega) only [e59_0, e59_1, e59_2, e59_3, e59_6, e59_7, e59_9, e59_10, e59_13, e59_14, e59_15, e59_16, e59_17, e59_18, e59_20, e59_21, e59_24, e59_26, e59_27, e59_28, e59_31, e59_33, e59_34, e59_35, e59_36, e59_39, e59_41, e59_42, e59_45, e59_46, e59_47, e59_50, e59_51, e59_54, e59_55, e59_58, e59_59, e59_60, e59_61, e59_64, e59_65, e59_68, e59_69, m59, ↓reduceIte, qg_0, qg_1, qg_2, qg_3, qg_4, qg_5, qg_6, qg_7, qg_8, qg_9, qg_10, qg_11, qg_12, qg_13, not_true_eq_false, not_false_eq_true, Nat.reduceBEq, Bool.false_eq_true, ex1, ex3, ex4, exF, qfit_i, qfit_l, qfit_r, qfit_n, qfit_b0, qfit_b1, qcat_i, qcat_r, qcat_n, qcat_l, qroom_0, qroom_c, List.map_cons, List.map_nil, List.sum_cons, List.sum_nil, Nat.reduceAdd, Nat.reduceMul, Nat.reduceLT, Nat.reduceLeDiff, Nat.reduceEqDiff, Nat.reduceSub, decide_true, true_and, and_true, and_self, if_true, if_false, Option.toList_some, Option.toList_none, List.cons_append, List.nil_append, qsL, qlong, List.length_cons, List.length_nil, iN_L, exI, iN_add, iN_mul, iN_le, iN_lt, iN_eq, Nat.le_refl, qfN0, qfN1, uX_16, vX_16, uX_19, vX_19, uX_27, vX_27, uX_30, vX_30, uX_39, vX_39, uX_41, vX_41, uX_43, vX_43, uX_46, vX_46, uX_50, vX_50, uX_53, vX_53, show ¬ hg ≤ lo by omega, sh, g5, rd, show x ≤ Bs.getD mi' 0 by omega]
  rw [← go Bs.length 0 Bs.length none (by omega) (Nat.zero_le _) (Nat.le_refl _) (fun t ht => absurd ht (Nat.not_lt_zero t)) (fun t t1 t2 => by omega)]
  simp (disch := first | assumption | omega) only [e59_0, e59_1, e59_2, e59_3, e59_6, e59_7, e59_9, e59_10, e59_13, e59_14, e59_15, e59_16, e59_17, e59_18, e59_20, e59_21, e59_24, e59_26, e59_27, e59_28, e59_31, e59_33, e59_34, e59_35, e59_36, e59_39, e59_41, e59_42, e59_45, e59_46, e59_47, e59_50, e59_51, e59_54, e59_55, e59_58, e59_59, e59_60, e59_61, e59_64, e59_65, e59_68, e59_69, m59, ↓reduceIte, qg_0, qg_1, qg_2, qg_3, qg_4, qg_5, qg_6, qg_7, qg_8, qg_9, qg_10, qg_11, qg_12, qg_13, not_true_eq_false, not_false_eq_true, Nat.reduceBEq, Bool.false_eq_true, ex1, ex3, ex4, exF, qfit_i, qfit_l, qfit_r, qfit_n, qfit_b0, qfit_b1, qcat_i, qcat_r, qcat_n, qcat_l, qroom_0, qroom_c, List.map_cons, List.map_nil, List.sum_cons, List.sum_nil, Nat.reduceAdd, Nat.reduceMul, Nat.reduceLT, Nat.reduceLeDiff, Nat.reduceEqDiff, Nat.reduceSub, decide_true, true_and, and_true, and_self, if_true, if_false, Option.toList_some, Option.toList_none, List.cons_append, List.nil_append, qsL, qlong, List.length_cons, List.length_nil, iN_L, exI, iN_add, iN_mul, iN_le, iN_lt, iN_eq, Nat.le_refl, qfN0, qfN1, uX_16, vX_16, uX_19, vX_19, uX_27, vX_27, uX_30, vX_30, uX_39, vX_39, uX_41, vX_41, uX_43, vX_43, uX_46, vX_46, uX_50, vX_50, uX_53, vX_53, g5, ln]
theorem im_fold {f : Nat → Nat} {x : Nat} : ∀ k, (pickN (fun c => x.testBit c) k).foldl (fun o c => o ||| 2 ^ f c) 0 = imS f x k
  | 0 => rfl
  | k + 1 => by
    rw [foldl_pick, im_fold k, imS]
    cases x.testBit k <;> simp
set_option maxRecDepth 100000 in
set_option maxHeartbeats 16000000 in
theorem x_renamed {x : Nat} {f : Nat → Nat} (s : ShX h) (hx : x < 65536) (hf' : ∀ c, x.testBit c = true → hi h 35 c = iN (f c) ∧ f c < 16) : qMC (d + 3) 58 [.ref 30, .int (iN x)] h R ↔ R = (some (.int (iN (imS f x 16))), h) := by
  have lp := (loop_mem (d := d + 2) (rt := 0) (K := qk_58) (pc := 4) (R := R) (α := Nat) (L := fun rest m => [some (.ref 30), some (.int (iN x)), some (.int (iN m)), some (.int (iN rest))]) (H := fun _ => h) (f := fun o c => o ||| 2 ^ f c) (I := fun _ => True) (P := fun c => x.testBit c = true) (fun c ms o hin hc _ => by
    obtain ⟨f1, f2⟩ := hf' c hc
    have c16 := bit16 hx hc
    have sl : ∀ R, qMC (d + 2) 178 [.int (iN (stL (c :: ms)))] h R ↔ R = (some (.int (iN c)), h) := fun R => x_least hin
    have sd := stL_drop hin
    have sn := stL_ne hin
    have sh : iN 1 <<< (iN (f c) &&& iN 31) = iN (2 ^ f c) := iN_shl1 (f c) (by omega)
    refine ⟨trivial, ?_⟩
    try dsimp only
    rw [e58_4]
    simp (disch := first | assumption | omega) only [e58_0, e58_1, e58_2, e58_3, e58_5, e58_8, e58_9, e58_10, e58_11, e58_14, e58_15, e58_18, e58_19, e58_20, e58_21, e58_22, e58_23, e58_24, e58_25, e58_26, e58_27, e58_28, e58_31, e58_32, m58, ↓reduceIte, qg_0, qg_1, qg_2, qg_3, qg_4, qg_5, qg_6, qg_7, qg_8, qg_9, qg_10, qg_11, qg_12, qg_13, not_true_eq_false, not_false_eq_true, Nat.reduceBEq, Bool.false_eq_true, ex1, ex3, ex4, exF, qfit_i, qfit_l, qfit_r, qfit_n, qfit_b0, qfit_b1, qcat_i, qcat_r, qcat_n, qcat_l, qroom_0, qroom_c, List.map_cons, List.map_nil, List.sum_cons, List.sum_nil, Nat.reduceAdd, Nat.reduceMul, Nat.reduceLT, Nat.reduceLeDiff, Nat.reduceEqDiff, Nat.reduceSub, decide_true, true_and, and_true, and_self, if_true, if_false, Option.toList_some, Option.toList_none, List.cons_append, List.nil_append, qsL, qlong, List.length_cons, List.length_nil, iN_L, exI, iN_add, iN_mul, iN_le, iN_lt, iN_eq, Nat.le_refl, qfN0, qfN1, uX_16, vX_16, uX_19, vX_19, uX_27, vX_27, uX_30, vX_30, uX_39, vX_39, uX_41, vX_41, uX_43, vX_43, uX_46, vX_46, uX_50, vX_50, uX_53, vX_53, sn, gX_30_8, sl, rX_35, f1, sh, iN_or o, sd]) (mems x) 0 (mems_in x) (fun c hc => (mem_mems hx).mp hc) trivial).2
  try dsimp only at lp
  rw [show (mems x).foldl (fun o c => o ||| 2 ^ f c) 0 = imS f x 16 from im_fold 16, stL_mems hx] at lp
  have r0 : qMC (d + 3) 58 [.ref 30, .int (iN x)] h R ↔ qEv (d + 2) 0 qk_58 4 [some (.ref 30), some (.int (iN x)), some (.int (iN 0)), some (.int (iN x))] [] h R := by
    simp (disch := first | assumption | omega) only [e58_0, e58_1, e58_2, e58_3, e58_5, e58_8, e58_9, e58_10, e58_11, e58_14, e58_15, e58_18, e58_19, e58_20, e58_21, e58_22, e58_23, e58_24, e58_25, e58_26, e58_27, e58_28, e58_31, e58_32, m58, ↓reduceIte, qg_0, qg_1, qg_2, qg_3, qg_4, qg_5, qg_6, qg_7, qg_8, qg_9, qg_10, qg_11, qg_12, qg_13, not_true_eq_false, not_false_eq_true, Nat.reduceBEq, Bool.false_eq_true, ex1, ex3, ex4, exF, qfit_i, qfit_l, qfit_r, qfit_n, qfit_b0, qfit_b1, qcat_i, qcat_r, qcat_n, qcat_l, qroom_0, qroom_c, List.map_cons, List.map_nil, List.sum_cons, List.sum_nil, Nat.reduceAdd, Nat.reduceMul, Nat.reduceLT, Nat.reduceLeDiff, Nat.reduceEqDiff, Nat.reduceSub, decide_true, true_and, and_true, and_self, if_true, if_false, Option.toList_some, Option.toList_none, List.cons_append, List.nil_append, qsL, qlong, List.length_cons, List.length_nil, iN_L, exI, iN_add, iN_mul, iN_le, iN_lt, iN_eq, Nat.le_refl, qfN0, qfN1, uX_16, vX_16, uX_19, vX_19, uX_27, vX_27, uX_30, vX_30, uX_39, vX_39, uX_41, vX_41, uX_43, vX_43, uX_46, vX_46, uX_50, vX_50, uX_53, vX_53]
  rw [r0, lp, e58_4]
  simp (disch := first | assumption | omega) only [e58_0, e58_1, e58_2, e58_3, e58_5, e58_8, e58_9, e58_10, e58_11, e58_14, e58_15, e58_18, e58_19, e58_20, e58_21, e58_22, e58_23, e58_24, e58_25, e58_26, e58_27, e58_28, e58_31, e58_32, m58, ↓reduceIte, qg_0, qg_1, qg_2, qg_3, qg_4, qg_5, qg_6, qg_7, qg_8, qg_9, qg_10, qg_11, qg_12, qg_13, not_true_eq_false, not_false_eq_true, Nat.reduceBEq, Bool.false_eq_true, ex1, ex3, ex4, exF, qfit_i, qfit_l, qfit_r, qfit_n, qfit_b0, qfit_b1, qcat_i, qcat_r, qcat_n, qcat_l, qroom_0, qroom_c, List.map_cons, List.map_nil, List.sum_cons, List.sum_nil, Nat.reduceAdd, Nat.reduceMul, Nat.reduceLT, Nat.reduceLeDiff, Nat.reduceEqDiff, Nat.reduceSub, decide_true, true_and, and_true, and_self, if_true, if_false, Option.toList_some, Option.toList_none, List.cons_append, List.nil_append, qsL, qlong, List.length_cons, List.length_nil, iN_L, exI, iN_add, iN_mul, iN_le, iN_lt, iN_eq, Nat.le_refl, qfN0, qfN1, uX_16, vX_16, uX_19, vX_19, uX_27, vX_27, uX_30, vX_30, uX_39, vX_39, uX_41, vX_41, uX_43, vX_43, uX_46, vX_46, uX_50, vX_50, uX_53, vX_53, stL_nil]
end XGOAL

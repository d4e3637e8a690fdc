/-! ===== THE CLASS: commonTo, cornerSet, squeeze, rankFacets ===== -/
section XCOMMON
variable {d D : Nat} {h : qH} {R : qRes} {l : List pt4}
set_option maxRecDepth 100000 in
set_option maxHeartbeats 16000000 in
theorem x_commonTo {r n m x : Nat} {F : Nat → Nat} (s : ShX h) (kr : kI h r n) (hm : m ≤ n) (hn : n < 100000) (hx : x < 65536) (hF : ∀ j, j < m → hi h r j = iN (F j) ∧ F j < 65536) : qMC (d + 1) 36 [.int (iN x), .ref r, .int (iN m)] h R ↔ R = (some (.int (cmE (cmS F x m))), h) := by
  have go : ∀ (w j : Nat), j + w = m → (qEv d 0 qk_36 5 [some (.int (iN x)), some (.ref r), some (.int (iN m)), some (.int (cmE (cmS F x j))), some (.int (iN j))] [] h R ↔ R = (some (.int (cmE (cmS F x m))), h)) := by
    intro w
    induction w with
    | zero =>
      intro j hj
      have e : j = m := by omega
      subst e
      rw [e36_5]
      simp (disch := first | assumption | omega) only [e36_0, e36_1, e36_2, e36_3, e36_7, e36_8, e36_11, e36_12, e36_13, e36_16, e36_17, e36_18, e36_20, e36_21, e36_22, e36_23, e36_24, e36_27, e36_28, e36_29, e36_31, e36_32, e36_33, e36_34, e36_37, e36_40, e36_41, m36, ↓reduceIte, qg_0, qg_1, qg_2, qg_3, qg_4, qg_5, qg_6, qg_7, qg_8, qg_9, qg_10, qg_11, qg_12, qg_13, not_true_eq_false, not_false_eq_true, Nat.reduceBEq, Bool.false_eq_true, ex1, ex3, ex4, exF, qfit_i, qfit_l, qfit_r, qfit_n, qfit_b0, qfit_b1, qcat_i, qcat_r, qcat_n, qcat_l, qroom_0, qroom_c, List.map_cons, List.map_nil, List.sum_cons, List.sum_nil, Nat.reduceAdd, Nat.reduceMul, Nat.reduceLT, Nat.reduceLeDiff, Nat.reduceEqDiff, Nat.reduceSub, decide_true, true_and, and_true, and_self, if_true, if_false, Option.toList_some, Option.toList_none, List.cons_append, List.nil_append, qsL, qlong, List.length_cons, List.length_nil, iN_L, exI, iN_add, iN_mul, iN_le, iN_lt, iN_eq, Nat.le_refl, qfN0, qfN1, uX_16, vX_16, uX_19, vX_19, uX_27, vX_27, uX_30, vX_30, uX_39, vX_39, uX_41, vX_41, uX_43, vX_43, uX_46, vX_46, uX_50, vX_50, uX_53, vX_53]
    | succ w ih =>
      intro j hj
      have hj' : j < m := by omega
      obtain ⟨r1, b1⟩ := hF j hj'
      have r3 : qiald h r (iN j) = some (iN (F j)) := by rw [rdI kr (by omega), r1]
      have wl := wo_le x (F j)
      cases q : cmS F x j with
      | none =>
        have ne : ¬ (-iN 1 : Int32) = iN x := fun z => by
          have : iN x < iN 0 := by rw [← z]; decide
          rw [iN_lt (by omega) (by omega)] at this
          omega
        have an : (-iN 1 : Int32) &&& iN (F j) = iN (F j) := by
          rw [show (-iN 1 : Int32) = -1 from rfl, Int32.neg_one_and]
        have ihj := ih (j + 1) (by omega)
        rw [cmS, q] at ihj
        by_cases z : wo x (F j) = 0
        · rw [if_pos z] at ihj
          rw [← ihj, e36_5]
          simp (disch := first | assumption | omega) only [e36_0, e36_1, e36_2, e36_3, e36_7, e36_8, e36_11, e36_12, e36_13, e36_16, e36_17, e36_18, e36_20, e36_21, e36_22, e36_23, e36_24, e36_27, e36_28, e36_29, e36_31, e36_32, e36_33, e36_34, e36_37, e36_40, e36_41, m36, ↓reduceIte, qg_0, qg_1, qg_2, qg_3, qg_4, qg_5, qg_6, qg_7, qg_8, qg_9, qg_10, qg_11, qg_12, qg_13, not_true_eq_false, not_false_eq_true, Nat.reduceBEq, Bool.false_eq_true, ex1, ex3, ex4, exF, qfit_i, qfit_l, qfit_r, qfit_n, qfit_b0, qfit_b1, qcat_i, qcat_r, qcat_n, qcat_l, qroom_0, qroom_c, List.map_cons, List.map_nil, List.sum_cons, List.sum_nil, Nat.reduceAdd, Nat.reduceMul, Nat.reduceLT, Nat.reduceLeDiff, Nat.reduceEqDiff, Nat.reduceSub, decide_true, true_and, and_true, and_self, if_true, if_false, Option.toList_some, Option.toList_none, List.cons_append, List.nil_append, qsL, qlong, List.length_cons, List.length_nil, iN_L, exI, iN_add, iN_mul, iN_le, iN_lt, iN_eq, Nat.le_refl, qfN0, qfN1, uX_16, vX_16, uX_19, vX_19, uX_27, vX_27, uX_30, vX_30, uX_39, vX_39, uX_41, vX_41, uX_43, vX_43, uX_46, vX_46, uX_50, vX_50, uX_53, vX_53, cmE, ne, show ¬ m ≤ j by omega, r3, iN_wo', z, an]
        · rw [if_neg z] at ihj
          rw [← ihj, e36_5]
          simp (disch := first | assumption | omega) only [e36_0, e36_1, e36_2, e36_3, e36_7, e36_8, e36_11, e36_12, e36_13, e36_16, e36_17, e36_18, e36_20, e36_21, e36_22, e36_23, e36_24, e36_27, e36_28, e36_29, e36_31, e36_32, e36_33, e36_34, e36_37, e36_40, e36_41, m36, ↓reduceIte, qg_0, qg_1, qg_2, qg_3, qg_4, qg_5, qg_6, qg_7, qg_8, qg_9, qg_10, qg_11, qg_12, qg_13, not_true_eq_false, not_false_eq_true, Nat.reduceBEq, Bool.false_eq_true, ex1, ex3, ex4, exF, qfit_i, qfit_l, qfit_r, qfit_n, qfit_b0, qfit_b1, qcat_i, qcat_r, qcat_n, qcat_l, qroom_0, qroom_c, List.map_cons, List.map_nil, List.sum_cons, List.sum_nil, Nat.reduceAdd, Nat.reduceMul, Nat.reduceLT, Nat.reduceLeDiff, Nat.reduceEqDiff, Nat.reduceSub, decide_true, true_and, and_true, and_self, if_true, if_false, Option.toList_some, Option.toList_none, List.cons_append, List.nil_append, qsL, qlong, List.length_cons, List.length_nil, iN_L, exI, iN_add, iN_mul, iN_le, iN_lt, iN_eq, Nat.le_refl, qfN0, qfN1, uX_16, vX_16, uX_19, vX_19, uX_27, vX_27, uX_30, vX_30, uX_39, vX_39, uX_41, vX_41, uX_43, vX_43, uX_46, vX_46, uX_50, vX_50, uX_53, vX_53, cmE, ne, show ¬ m ≤ j by omega, r3, iN_wo', z]
      | some c =>
        have cl := cmS_lt (fun t ht => (hF t (by omega)).2) q
        by_cases ec : c = x
        · subst ec
          rw [cmS_stay q (show j ≤ m by omega), e36_5]
          simp (disch := first | assumption | omega) only [e36_0, e36_1, e36_2, e36_3, e36_7, e36_8, e36_11, e36_12, e36_13, e36_16, e36_17, e36_18, e36_20, e36_21, e36_22, e36_23, e36_24, e36_27, e36_28, e36_29, e36_31, e36_32, e36_33, e36_34, e36_37, e36_40, e36_41, m36, ↓reduceIte, qg_0, qg_1, qg_2, qg_3, qg_4, qg_5, qg_6, qg_7, qg_8, qg_9, qg_10, qg_11, qg_12, qg_13, not_true_eq_false, not_false_eq_true, Nat.reduceBEq, Bool.false_eq_true, ex1, ex3, ex4, exF, qfit_i, qfit_l, qfit_r, qfit_n, qfit_b0, qfit_b1, qcat_i, qcat_r, qcat_n, qcat_l, qroom_0, qroom_c, List.map_cons, List.map_nil, List.sum_cons, List.sum_nil, Nat.reduceAdd, Nat.reduceMul, Nat.reduceLT, Nat.reduceLeDiff, Nat.reduceEqDiff, Nat.reduceSub, decide_true, true_and, and_true, and_self, if_true, if_false, Option.toList_some, Option.toList_none, List.cons_append, List.nil_append, qsL, qlong, List.length_cons, List.length_nil, iN_L, exI, iN_add, iN_mul, iN_le, iN_lt, iN_eq, Nat.le_refl, qfN0, qfN1, uX_16, vX_16, uX_19, vX_19, uX_27, vX_27, uX_30, vX_30, uX_39, vX_39, uX_41, vX_41, uX_43, vX_43, uX_46, vX_46, uX_50, vX_50, uX_53, vX_53, cmE, show ¬ m ≤ j by omega]
        · have ihj := ih (j + 1) (by omega)
          rw [cmS, q] at ihj
          by_cases z : wo x (F j) = 0
          · rw [if_pos z] at ihj
            rw [← ihj, e36_5]
            simp (disch := first | assumption | omega) only [e36_0, e36_1, e36_2, e36_3, e36_7, e36_8, e36_11, e36_12, e36_13, e36_16, e36_17, e36_18, e36_20, e36_21, e36_22, e36_23, e36_24, e36_27, e36_28, e36_29, e36_31, e36_32, e36_33, e36_34, e36_37, e36_40, e36_41, m36, ↓reduceIte, qg_0, qg_1, qg_2, qg_3, qg_4, qg_5, qg_6, qg_7, qg_8, qg_9, qg_10, qg_11, qg_12, qg_13, not_true_eq_false, not_false_eq_true, Nat.reduceBEq, Bool.false_eq_true, ex1, ex3, ex4, exF, qfit_i, qfit_l, qfit_r, qfit_n, qfit_b0, qfit_b1, qcat_i, qcat_r, qcat_n, qcat_l, qroom_0, qroom_c, List.map_cons, List.map_nil, List.sum_cons, List.sum_nil, Nat.reduceAdd, Nat.reduceMul, Nat.reduceLT, Nat.reduceLeDiff, Nat.reduceEqDiff, Nat.reduceSub, decide_true, true_and, and_true, and_self, if_true, if_false, Option.toList_some, Option.toList_none, List.cons_append, List.nil_append, qsL, qlong, List.length_cons, List.length_nil, iN_L, exI, iN_add, iN_mul, iN_le, iN_lt, iN_eq, Nat.le_refl, qfN0, qfN1, uX_16, vX_16, uX_19, vX_19, uX_27, vX_27, uX_30, vX_30, uX_39, vX_39, uX_41, vX_41, uX_43, vX_43, uX_46, vX_46, uX_50, vX_50, uX_53, vX_53, cmE, ec, show ¬ m ≤ j by omega, r3, iN_wo', z, iN_and c (F j)]
          · rw [if_neg z] at ihj
            rw [← ihj, e36_5]
            simp (disch := first | assumption | omega) only [e36_0, e36_1, e36_2, e36_3, e36_7, e36_8, e36_11, e36_12, e36_13, e36_16, e36_17, e36_18, e36_20, e36_21, e36_22, e36_23, e36_24, e36_27, e36_28, e36_29, e36_31, e36_32, e36_33, e36_34, e36_37, e36_40, e36_41, m36, ↓reduceIte, qg_0, qg_1, qg_2, qg_3, qg_4, qg_5, qg_6, qg_7, qg_8, qg_9, qg_10, qg_11, qg_12, qg_13, not_true_eq_false, not_false_eq_true, Nat.reduceBEq, Bool.false_eq_true, ex1, ex3, ex4, exF, qfit_i, qfit_l, qfit_r, qfit_n, qfit_b0, qfit_b1, qcat_i, qcat_r, qcat_n, qcat_l, qroom_0, qroom_c, List.map_cons, List.map_nil, List.sum_cons, List.sum_nil, Nat.reduceAdd, Nat.reduceMul, Nat.reduceLT, Nat.reduceLeDiff, Nat.reduceEqDiff, Nat.reduceSub, decide_true, true_and, and_true, and_self, if_true, if_false, Option.toList_some, Option.toList_none, List.cons_append, List.nil_append, qsL, qlong, List.length_cons, List.length_nil, iN_L, exI, iN_add, iN_mul, iN_le, iN_lt, iN_eq, Nat.le_refl, qfN0, qfN1, uX_16, vX_16, uX_19, vX_19, uX_27, vX_27, uX_30, vX_30, uX_39, vX_39, uX_41, vX_41, uX_43, vX_43, uX_46, vX_46, uX_50, vX_50, uX_53, vX_53, cmE, ec, show ¬ m ≤ j by omega, r3, iN_wo', z]
  rw [← go m 0 (by omega)]
  simp (disch := first | assumption | omega) only [e36_0, e36_1, e36_2, e36_3, e36_7, e36_8, e36_11, e36_12, e36_13, e36_16, e36_17, e36_18, e36_20, e36_21, e36_22, e36_23, e36_24, e36_27, e36_28, e36_29, e36_31, e36_32, e36_33, e36_34, e36_37, e36_40, e36_41, m36, ↓reduceIte, qg_0, qg_1, qg_2, qg_3, qg_4, qg_5, qg_6, qg_7, qg_8, qg_9, qg_10, qg_11, qg_12, qg_13, not_true_eq_false, not_false_eq_true, Nat.reduceBEq, Bool.false_eq_true, ex1, ex3, ex4, exF, qfit_i, qfit_l, qfit_r, qfit_n, qfit_b0, qfit_b1, qcat_i, qcat_r, qcat_n, qcat_l, qroom_0, qroom_c, List.map_cons, List.map_nil, List.sum_cons, List.sum_nil, Nat.reduceAdd, Nat.reduceMul, Nat.reduceLT, Nat.reduceLeDiff, Nat.reduceEqDiff, Nat.reduceSub, decide_true, true_and, and_true, and_self, if_true, if_false, Option.toList_some, Option.toList_none, List.cons_append, List.nil_append, qsL, qlong, List.length_cons, List.length_nil, iN_L, exI, iN_add, iN_mul, iN_le, iN_lt, iN_eq, Nat.le_refl, qfN0, qfN1, uX_16, vX_16, uX_19, vX_19, uX_27, vX_27, uX_30, vX_30, uX_39, vX_39, uX_41, vX_41, uX_43, vX_43, uX_46, vX_46, uX_50, vX_50, uX_53, vX_53, cmS, cmE]
theorem cmE_eq {F : Nat → Nat} {x m : Nat} (hx : x < 65536) (hF : ∀ j, j < m → F j < 65536) : cmE (cmS F x m) = iN x ↔ cmS F x m = some x := by
  cases q : cmS F x m with
  | none =>
    refine ⟨fun z => ?_, fun z => (by cases z)⟩
    have z' : (-iN 1 : Int32) = iN x := z
    have : iN x < iN 0 := by rw [← z']; decide
    rw [iN_lt (by omega) (by omega)] at this
    omega
  | some c =>
    have cl := cmS_lt hF q
    show iN c = iN x ↔ some c = some x
    rw [iN_eq (by omega) (by omega)]
    exact ⟨fun z => by rw [z], fun z => Option.some.inj z⟩
/-- a point is a corner -/
theorem corP_cm {f p : Nat} {F : Nat → Nat} {Q : Nat → Nat → Int} (ok : okP l D) (fl : facL l D f F Q) (hp : p < l.length) (hF : ∀ j, j < f → F j < 65536) : corP l D p ↔ cmS F (2 ^ p) f = some (2 ^ p) := by
  have sub : ∀ j, wo (2 ^ p) (F j) = 0 ↔ (F j).testBit p = true := fun j => by
    rw [wo_0i]
    constructor
    · intro z; exact z p (by rw [Nat.testBit_two_pow]; exact decide_eq_true rfl)
    · intro z b hb
      rw [Nat.testBit_two_pow, decide_eq_true_eq] at hb
      rw [← hb]; exact z
  rw [cmS_iff]
  unfold corP
  constructor
  · rintro ⟨⟨x, hx, hb⟩, hall⟩
    obtain ⟨j, hj, e⟩ := (facL_iff fl).mp hx
    refine ⟨⟨j, hj, (sub j).mpr (by rw [e]; exact hb)⟩, fun b hb2 => ?_⟩
    have hbf : (F j).testBit b = true := hb2 j hj ((sub j).mpr (by rw [e]; exact hb))
    have hbl : b < l.length := by
      obtain ⟨c0, c1, c2, c3, i, g, e2, -⟩ := fl.1.1 j hj
      rw [e2] at hbf
      unfold chM at hbf
      rw [mask_bit, Bool.and_eq_true, decide_eq_true_eq] at hbf
      exact hbf.1
    have := hall b hbl fun x hx hxp => by
      obtain ⟨k, hk, e3⟩ := (facL_iff fl).mp hx
      rw [← e3] at hxp ⊢
      exact hb2 k hk ((sub k).mpr hxp)
    rw [this, Nat.testBit_two_pow]
    exact decide_eq_true rfl
  · rintro ⟨⟨j, hj, hw⟩, hall⟩
    refine ⟨⟨F j, (facL_iff fl).mpr ⟨j, hj, rfl⟩, (sub j).mp hw⟩, fun b _ hb => ?_⟩
    have := hall b fun k hk hw2 => hb (F k) ((facL_iff fl).mpr ⟨k, hk, rfl⟩) ((sub k).mp hw2)
    rw [Nat.testBit_two_pow, decide_eq_true_eq] at this
    exact this.symm
set_option maxRecDepth 100000 in
set_option maxHeartbeats 16000000 in
theorem x_cornerSet {f : Nat} {F : Nat → Nat} {Q Q' : Nat → Nat → Int} (s : ShX h) (v : HtX h D l) (ok : okP l D) (hfx : HfX h f F Q) (fl : facL l D f F Q') : qMC (d + 2) 35 [.ref 19] h R ↔ R = (some (.int (iN (mask (fun p => tB (corP l D p)) l.length))), h) := by
  obtain ⟨v3, v1, v2, vp⟩ := v
  have h16 := ok.2.2.1
  rw [show (if l.length < 16 then l.length else 16) = l.length by split <;> omega] at v1
  obtain ⟨w1, w2, w3⟩ := hfx
  have r0 : qMC (d + 2) 35 [.ref 19] h R ↔ qEv (d + 1) 0 qk_35 4 [some (.ref 19), some (.int (iN (mask (fun p => tB (corP l D p)) 0))), some (.int (iN 0))] [] h R := by
    simp (disch := first | assumption | omega) only [e35_0, e35_1, e35_2, e35_3, e35_5, e35_6, e35_9, e35_12, e35_13, e35_14, e35_15, e35_16, e35_19, e35_20, e35_23, e35_26, e35_27, e35_28, e35_29, e35_32, e35_33, e35_34, e35_35, e35_36, e35_37, e35_38, e35_41, e35_44, e35_45, m35, ↓reduceIte, qg_0, qg_1, qg_2, qg_3, qg_4, qg_5, qg_6, qg_7, qg_8, qg_9, qg_10, qg_11, qg_12, qg_13, not_true_eq_false, not_false_eq_true, Nat.reduceBEq, Bool.false_eq_true, ex1, ex3, ex4, exF, qfit_i, qfit_l, qfit_r, qfit_n, qfit_b0, qfit_b1, qcat_i, qcat_r, qcat_n, qcat_l, qroom_0, qroom_c, List.map_cons, List.map_nil, List.sum_cons, List.sum_nil, Nat.reduceAdd, Nat.reduceMul, Nat.reduceLT, Nat.reduceLeDiff, Nat.reduceEqDiff, Nat.reduceSub, decide_true, true_and, and_true, and_self, if_true, if_false, Option.toList_some, Option.toList_none, List.cons_append, List.nil_append, qsL, qlong, List.length_cons, List.length_nil, iN_L, exI, iN_add, iN_mul, iN_le, iN_lt, iN_eq, Nat.le_refl, qfN0, qfN1, uX_16, vX_16, uX_19, vX_19, uX_27, vX_27, uX_30, vX_30, uX_39, vX_39, uX_41, vX_41, uX_43, vX_43, uX_46, vX_46, uX_50, vX_50, uX_53, vX_53]
    exact Iff.rfl
  rw [r0]
  refine Iff.trans (loop_up (n := l.length) (L := fun p => [some (.ref 19), some (.int (iN (mask (fun p => tB (corP l D p)) p))), some (.int (iN p))]) (H := fun _ => h) ?_) ?_
  · intro p hp
    try dsimp only
    have sh := iN_shl1 p (by omega)
    have p2 : 2 ^ p < 65536 := show 2 ^ p < 2 ^ 16 from Nat.pow_lt_pow_right (by decide) (by omega)
    have cm : ∀ R, qMC (d + 1) 36 [.int (iN (2 ^ p)), .ref 21, .int (iN f)] h R ↔ R = (some (.int (cmE (cmS F (2 ^ p) f))), h) := fun R => x_commonTo s (kX_21 s) w2 (by decide) p2 fun j hj => (w3 j hj).1
    have ce := cmE_eq (F := F) (m := f) p2 fun j hj => (w3 j hj).1.2
    have cp := corP_cm ok fl hp fun j hj => (w3 j hj).1.2
    rw [mask, e35_4]
    by_cases q : corP l D p
    · have e1 := ce.mpr (cp.mp q)
      rw [if_pos (tB_t q)]
      simp (disch := first | assumption | omega) only [e35_0, e35_1, e35_2, e35_3, e35_5, e35_6, e35_9, e35_12, e35_13, e35_14, e35_15, e35_16, e35_19, e35_20, e35_23, e35_26, e35_27, e35_28, e35_29, e35_32, e35_33, e35_34, e35_35, e35_36, e35_37, e35_38, e35_41, e35_44, e35_45, m35, ↓reduceIte, qg_0, qg_1, qg_2, qg_3, qg_4, qg_5, qg_6, qg_7, qg_8, qg_9, qg_10, qg_11, qg_12, qg_13, not_true_eq_false, not_false_eq_true, Nat.reduceBEq, Bool.false_eq_true, ex1, ex3, ex4, exF, qfit_i, qfit_l, qfit_r, qfit_n, qfit_b0, qfit_b1, qcat_i, qcat_r, qcat_n, qcat_l, qroom_0, qroom_c, List.map_cons, List.map_nil, List.sum_cons, List.sum_nil, Nat.reduceAdd, Nat.reduceMul, Nat.reduceLT, Nat.reduceLeDiff, Nat.reduceEqDiff, Nat.reduceSub, decide_true, true_and, and_true, and_self, if_true, if_false, Option.toList_some, Option.toList_none, List.cons_append, List.nil_append, qsL, qlong, List.length_cons, List.length_nil, iN_L, exI, iN_add, iN_mul, iN_le, iN_lt, iN_eq, Nat.le_refl, qfN0, qfN1, uX_16, vX_16, uX_19, vX_19, uX_27, vX_27, uX_30, vX_30, uX_39, vX_39, uX_41, vX_41, uX_43, vX_43, uX_46, vX_46, uX_50, vX_50, uX_53, vX_53, gX_19_1, gX_19_4, gX_19_6, v1, w1, show ¬ l.length ≤ p by omega, sh, cm, e1, iN_or]
    · have e1 : ¬ cmE (cmS F (2 ^ p) f) = iN (2 ^ p) := fun z => q (cp.mpr (ce.mp z))
      rw [if_neg (fun z => q (tB_iff.mp z)), Nat.or_zero]
      simp (disch := first | assumption | omega) only [e35_0, e35_1, e35_2, e35_3, e35_5, e35_6, e35_9, e35_12, e35_13, e35_14, e35_15, e35_16, e35_19, e35_20, e35_23, e35_26, e35_27, e35_28, e35_29, e35_32, e35_33, e35_34, e35_35, e35_36, e35_37, e35_38, e35_41, e35_44, e35_45, m35, ↓reduceIte, qg_0, qg_1, qg_2, qg_3, qg_4, qg_5, qg_6, qg_7, qg_8, qg_9, qg_10, qg_11, qg_12, qg_13, not_true_eq_false, not_false_eq_true, Nat.reduceBEq, Bool.false_eq_true, ex1, ex3, ex4, exF, qfit_i, qfit_l, qfit_r, qfit_n, qfit_b0, qfit_b1, qcat_i, qcat_r, qcat_n, qcat_l, qroom_0, qroom_c, List.map_cons, List.map_nil, List.sum_cons, List.sum_nil, Nat.reduceAdd, Nat.reduceMul, Nat.reduceLT, Nat.reduceLeDiff, Nat.reduceEqDiff, Nat.reduceSub, decide_true, true_and, and_true, and_self, if_true, if_false, Option.toList_some, Option.toList_none, List.cons_append, List.nil_append, qsL, qlong, List.length_cons, List.length_nil, iN_L, exI, iN_add, iN_mul, iN_le, iN_lt, iN_eq, Nat.le_refl, qfN0, qfN1, uX_16, vX_16, uX_19, vX_19, uX_27, vX_27, uX_30, vX_30, uX_39, vX_39, uX_41, vX_41, uX_43, vX_43, uX_46, vX_46, uX_50, vX_50, uX_53, vX_53, gX_19_1, gX_19_4, gX_19_6, v1, w1, show ¬ l.length ≤ p by omega, sh, cm, e1]
  · try dsimp only
    rw [e35_4]
    simp (disch := first | assumption | omega) only [e35_0, e35_1, e35_2, e35_3, e35_5, e35_6, e35_9, e35_12, e35_13, e35_14, e35_15, e35_16, e35_19, e35_20, e35_23, e35_26, e35_27, e35_28, e35_29, e35_32, e35_33, e35_34, e35_35, e35_36, e35_37, e35_38, e35_41, e35_44, e35_45, m35, ↓reduceIte, qg_0, qg_1, qg_2, qg_3, qg_4, qg_5, qg_6, qg_7, qg_8, qg_9, qg_10, qg_11, qg_12, qg_13, not_true_eq_false, not_false_eq_true, Nat.reduceBEq, Bool.false_eq_true, ex1, ex3, ex4, exF, qfit_i, qfit_l, qfit_r, qfit_n, qfit_b0, qfit_b1, qcat_i, qcat_r, qcat_n, qcat_l, qroom_0, qroom_c, List.map_cons, List.map_nil, List.sum_cons, List.sum_nil, Nat.reduceAdd, Nat.reduceMul, Nat.reduceLT, Nat.reduceLeDiff, Nat.reduceEqDiff, Nat.reduceSub, decide_true, true_and, and_true, and_self, if_true, if_false, Option.toList_some, Option.toList_none, List.cons_append, List.nil_append, qsL, qlong, List.length_cons, List.length_nil, iN_L, exI, iN_add, iN_mul, iN_le, iN_lt, iN_eq, Nat.le_refl, qfN0, qfN1, uX_16, vX_16, uX_19, vX_19, uX_27, vX_27, uX_30, vX_30, uX_39, vX_39, uX_41, vX_41, uX_43, vX_43, uX_46, vX_46, uX_50, vX_50, uX_53, vX_53, gX_19_1, v1]
set_option maxRecDepth 100000 in
set_option maxHeartbeats 16000000 in
theorem x_squeeze {y n : Nat} {p : Nat → Bool} {g : Nat → Nat} (hy : y < 65536) (h16 : n ≤ 16) (g0 : g 0 = 0) (gs : ∀ q, q < n → g (q + 1) = g q ||| (if y.testBit q = true ∧ p q = true then 2 ^ cntN p q else 0)) : qMC (d + 1) 37 [.int (iN y), .int (iN (mask p n))] h R ↔ R = (some (.int (iN (g n))), h) := by
  have mk : mask p n < 65536 := mask_16 h16
  obtain ⟨G, eG⟩ : ∃ G : Nat → Nat, G = fun q => if q < n then g q else g n := ⟨_, rfl⟩
  obtain ⟨C, eC⟩ : ∃ C : Nat → Nat, C = fun q => if q < n then cntN p q else cntN p n := ⟨_, rfl⟩
  have C0 : C 0 = 0 := by rw [eC]; try dsimp only
                          split
                          · rfl
                          · rw [show n = 0 by omega]; rfl
  have G0 : G 0 = 0 := by rw [eG]; try dsimp only
                          split
                          · exact g0
                          · rw [show n = 0 by omega]; exact g0
  have r0 : qMC (d + 1) 37 [.int (iN y), .int (iN (mask p n))] h R ↔ qEv d 0 qk_37 7 [some (.int (iN y)), some (.int (iN (mask p n))), some (.int (iN (G 0))), some (.int (iN (C 0))), some (.int (iN 0))] [] h R := by
    rw [G0, C0]
    simp (disch := first | assumption | omega) only [e37_0, e37_1, e37_2, e37_3, e37_4, e37_5, e37_9, e37_11, e37_14, e37_15, e37_17, e37_18, e37_19, e37_20, e37_23, e37_24, e37_25, e37_27, e37_28, e37_29, e37_30, e37_31, e37_32, e37_33, e37_34, e37_37, e37_40, e37_43, e37_44, m37, ↓reduceIte, qg_0, qg_1, qg_2, qg_3, qg_4, qg_5, qg_6, qg_7, qg_8, qg_9, qg_10, qg_11, qg_12, qg_13, not_true_eq_false, not_false_eq_true, Nat.reduceBEq, Bool.false_eq_true, ex1, ex3, ex4, exF, qfit_i, qfit_l, qfit_r, qfit_n, qfit_b0, qfit_b1, qcat_i, qcat_r, qcat_n, qcat_l, qroom_0, qroom_c, List.map_cons, List.map_nil, List.sum_cons, List.sum_nil, Nat.reduceAdd, Nat.reduceMul, Nat.reduceLT, Nat.reduceLeDiff, Nat.reduceEqDiff, Nat.reduceSub, decide_true, true_and, and_true, and_self, if_true, if_false, Option.toList_some, Option.toList_none, List.cons_append, List.nil_append, qsL, qlong, List.length_cons, List.length_nil, iN_L, exI, iN_add, iN_mul, iN_le, iN_lt, iN_eq, Nat.le_refl, qfN0, qfN1, uX_16, vX_16, uX_19, vX_19, uX_27, vX_27, uX_30, vX_30, uX_39, vX_39, uX_41, vX_41, uX_43, vX_43, uX_46, vX_46, uX_50, vX_50, uX_53, vX_53]
  rw [r0]
  refine Iff.trans (loop_up (n := 16) (L := fun q => [some (.int (iN y)), some (.int (iN (mask p n))), some (.int (iN (G q))), some (.int (iN (C q))), some (.int (iN q))]) (H := fun _ => h) ?_) ?_
  · intro q hq
    try dsimp only
    have bm : (mask p n).testBit q = (decide (q < n) && p q) := mask_bit p n q
    have cl : C q ≤ 16 := by rw [eC]; try dsimp only
                             split
                             · have := cntN_le (p := p) (n := q); omega
                             · have := cntN_le (p := p) (n := n); omega
    have bt := iN_bit (m := mask p n) (p := q) (by omega) (by omega)
    have by' := iN_bit (m := y) (p := q) (by omega) (by omega)
    have sh := iN_shl1 (C q) (by omega)
    by_cases hqn : q < n
    · have eg1 : G q = g q := by rw [eG]; exact if_pos hqn
      have ec1 : C q = cntN p q := by rw [eC]; exact if_pos hqn
      have eg2 : G (q + 1) = g (q + 1) := by rw [eG]; try dsimp only
                                             split
                                             · rfl
                                             · rw [show n = q + 1 by omega]
      have ec2 : C (q + 1) = cntN p (q + 1) := by rw [eC]; try dsimp only
                                                  split
                                                  · rfl
                                                  · rw [show n = q + 1 by omega]
      rw [decide_eq_true hqn, Bool.true_and] at bm
      rw [eg2, ec2, gs q hqn, cntN, eg1, ec1]
      rw [ec1] at sh cl
      cases pq : p q with
      | true =>
        rw [bm, pq, if_pos rfl] at bt
        cases yq : y.testBit q with
        | true =>
          rw [yq, if_pos rfl] at by'
          rw [if_pos ⟨rfl, rfl⟩, if_pos rfl, e37_7]
          simp (disch := first | assumption | omega) only [e37_0, e37_1, e37_2, e37_3, e37_4, e37_5, e37_9, e37_11, e37_14, e37_15, e37_17, e37_18, e37_19, e37_20, e37_23, e37_24, e37_25, e37_27, e37_28, e37_29, e37_30, e37_31, e37_32, e37_33, e37_34, e37_37, e37_40, e37_43, e37_44, m37, ↓reduceIte, qg_0, qg_1, qg_2, qg_3, qg_4, qg_5, qg_6, qg_7, qg_8, qg_9, qg_10, qg_11, qg_12, qg_13, not_true_eq_false, not_false_eq_true, Nat.reduceBEq, Bool.false_eq_true, ex1, ex3, ex4, exF, qfit_i, qfit_l, qfit_r, qfit_n, qfit_b0, qfit_b1, qcat_i, qcat_r, qcat_n, qcat_l, qroom_0, qroom_c, List.map_cons, List.map_nil, List.sum_cons, List.sum_nil, Nat.reduceAdd, Nat.reduceMul, Nat.reduceLT, Nat.reduceLeDiff, Nat.reduceEqDiff, Nat.reduceSub, decide_true, true_and, and_true, and_self, if_true, if_false, Option.toList_some, Option.toList_none, List.cons_append, List.nil_append, qsL, qlong, List.length_cons, List.length_nil, iN_L, exI, iN_add, iN_mul, iN_le, iN_lt, iN_eq, Nat.le_refl, qfN0, qfN1, uX_16, vX_16, uX_19, vX_19, uX_27, vX_27, uX_30, vX_30, uX_39, vX_39, uX_41, vX_41, uX_43, vX_43, uX_46, vX_46, uX_50, vX_50, uX_53, vX_53, show ¬ 16 ≤ q by omega, bt, by', sh, iN_or]
        | false =>
          rw [yq, if_neg Bool.false_ne_true] at by'
          have z0 : iN 0 <<< (iN (cntN p q) &&& iN 31) = iN 0 := by
            have h := (by decide +kernel : ∀ c, c < 17 → iN 0 <<< (iN c &&& iN 31) = iN 0)
            exact h _ (by omega)
          rw [if_neg (fun z => Bool.false_ne_true z.1), if_pos rfl, Nat.or_zero, e37_7]
          simp (disch := first | assumption | omega) only [e37_0, e37_1, e37_2, e37_3, e37_4, e37_5, e37_9, e37_11, e37_14, e37_15, e37_17, e37_18, e37_19, e37_20, e37_23, e37_24, e37_25, e37_27, e37_28, e37_29, e37_30, e37_31, e37_32, e37_33, e37_34, e37_37, e37_40, e37_43, e37_44, m37, ↓reduceIte, qg_0, qg_1, qg_2, qg_3, qg_4, qg_5, qg_6, qg_7, qg_8, qg_9, qg_10, qg_11, qg_12, qg_13, not_true_eq_false, not_false_eq_true, Nat.reduceBEq, Bool.false_eq_true, ex1, ex3, ex4, exF, qfit_i, qfit_l, qfit_r, qfit_n, qfit_b0, qfit_b1, qcat_i, qcat_r, qcat_n, qcat_l, qroom_0, qroom_c, List.map_cons, List.map_nil, List.sum_cons, List.sum_nil, Nat.reduceAdd, Nat.reduceMul, Nat.reduceLT, Nat.reduceLeDiff, Nat.reduceEqDiff, Nat.reduceSub, decide_true, true_and, and_true, and_self, if_true, if_false, Option.toList_some, Option.toList_none, List.cons_append, List.nil_append, qsL, qlong, List.length_cons, List.length_nil, iN_L, exI, iN_add, iN_mul, iN_le, iN_lt, iN_eq, Nat.le_refl, qfN0, qfN1, uX_16, vX_16, uX_19, vX_19, uX_27, vX_27, uX_30, vX_30, uX_39, vX_39, uX_41, vX_41, uX_43, vX_43, uX_46, vX_46, uX_50, vX_50, uX_53, vX_53, show ¬ 16 ≤ q by omega, bt, by', z0, iN_or, Nat.or_zero]
      | false =>
        rw [bm, pq, if_neg Bool.false_ne_true] at bt
        rw [if_neg (fun z => Bool.false_ne_true z.2), if_neg Bool.false_ne_true, Nat.or_zero, Nat.add_zero, e37_7]
        simp (disch := first | assumption | omega) only [e37_0, e37_1, e37_2, e37_3, e37_4, e37_5, e37_9, e37_11, e37_14, e37_15, e37_17, e37_18, e37_19, e37_20, e37_23, e37_24, e37_25, e37_27, e37_28, e37_29, e37_30, e37_31, e37_32, e37_33, e37_34, e37_37, e37_40, e37_43, e37_44, m37, ↓reduceIte, qg_0, qg_1, qg_2, qg_3, qg_4, qg_5, qg_6, qg_7, qg_8, qg_9, qg_10, qg_11, qg_12, qg_13, not_true_eq_false, not_false_eq_true, Nat.reduceBEq, Bool.false_eq_true, ex1, ex3, ex4, exF, qfit_i, qfit_l, qfit_r, qfit_n, qfit_b0, qfit_b1, qcat_i, qcat_r, qcat_n, qcat_l, qroom_0, qroom_c, List.map_cons, List.map_nil, List.sum_cons, List.sum_nil, Nat.reduceAdd, Nat.reduceMul, Nat.reduceLT, Nat.reduceLeDiff, Nat.reduceEqDiff, Nat.reduceSub, decide_true, true_and, and_true, and_self, if_true, if_false, Option.toList_some, Option.toList_none, List.cons_append, List.nil_append, qsL, qlong, List.length_cons, List.length_nil, iN_L, exI, iN_add, iN_mul, iN_le, iN_lt, iN_eq, Nat.le_refl, qfN0, qfN1, uX_16, vX_16, uX_19, vX_19, uX_27, vX_27, uX_30, vX_30, uX_39, vX_39, uX_41, vX_41, uX_43, vX_43, uX_46, vX_46, uX_50, vX_50, uX_53, vX_53, show ¬ 16 ≤ q by omega, bt]
    · have eg1 : G (q + 1) = G q := by rw [eG]; try dsimp only
                                       rw [if_neg (by omega), if_neg hqn]
      have ec1 : C (q + 1) = C q := by rw [eC]; try dsimp only
                                       rw [if_neg (by omega), if_neg hqn]
      rw [decide_eq_false hqn, Bool.false_and] at bm
      rw [bm, if_neg Bool.false_ne_true] at bt
      rw [eg1, ec1, e37_7]
      simp (disch := first | assumption | omega) only [e37_0, e37_1, e37_2, e37_3, e37_4, e37_5, e37_9, e37_11, e37_14, e37_15, e37_17, e37_18, e37_19, e37_20, e37_23, e37_24, e37_25, e37_27, e37_28, e37_29, e37_30, e37_31, e37_32, e37_33, e37_34, e37_37, e37_40, e37_43, e37_44, m37, ↓reduceIte, qg_0, qg_1, qg_2, qg_3, qg_4, qg_5, qg_6, qg_7, qg_8, qg_9, qg_10, qg_11, qg_12, qg_13, not_true_eq_false, not_false_eq_true, Nat.reduceBEq, Bool.false_eq_true, ex1, ex3, ex4, exF, qfit_i, qfit_l, qfit_r, qfit_n, qfit_b0, qfit_b1, qcat_i, qcat_r, qcat_n, qcat_l, qroom_0, qroom_c, List.map_cons, List.map_nil, List.sum_cons, List.sum_nil, Nat.reduceAdd, Nat.reduceMul, Nat.reduceLT, Nat.reduceLeDiff, Nat.reduceEqDiff, Nat.reduceSub, decide_true, true_and, and_true, and_self, if_true, if_false, Option.toList_some, Option.toList_none, List.cons_append, List.nil_append, qsL, qlong, List.length_cons, List.length_nil, iN_L, exI, iN_add, iN_mul, iN_le, iN_lt, iN_eq, Nat.le_refl, qfN0, qfN1, uX_16, vX_16, uX_19, vX_19, uX_27, vX_27, uX_30, vX_30, uX_39, vX_39, uX_41, vX_41, uX_43, vX_43, uX_46, vX_46, uX_50, vX_50, uX_53, vX_53, show ¬ 16 ≤ q by omega, bt]
  · try dsimp only
    have e16 : G 16 = g n := by rw [eG]; try dsimp only
                                split
                                · omega
                                · rfl
    rw [e16, e37_7]
    simp (disch := first | assumption | omega) only [e37_0, e37_1, e37_2, e37_3, e37_4, e37_5, e37_9, e37_11, e37_14, e37_15, e37_17, e37_18, e37_19, e37_20, e37_23, e37_24, e37_25, e37_27, e37_28, e37_29, e37_30, e37_31, e37_32, e37_33, e37_34, e37_37, e37_40, e37_43, e37_44, m37, ↓reduceIte, qg_0, qg_1, qg_2, qg_3, qg_4, qg_5, qg_6, qg_7, qg_8, qg_9, qg_10, qg_11, qg_12, qg_13, not_true_eq_false, not_false_eq_true, Nat.reduceBEq, Bool.false_eq_true, ex1, ex3, ex4, exF, qfit_i, qfit_l, qfit_r, qfit_n, qfit_b0, qfit_b1, qcat_i, qcat_r, qcat_n, qcat_l, qroom_0, qroom_c, List.map_cons, List.map_nil, List.sum_cons, List.sum_nil, Nat.reduceAdd, Nat.reduceMul, Nat.reduceLT, Nat.reduceLeDiff, Nat.reduceEqDiff, Nat.reduceSub, decide_true, true_and, and_true, and_self, if_true, if_false, Option.toList_some, Option.toList_none, List.cons_append, List.nil_append, qsL, qlong, List.length_cons, List.length_nil, iN_L, exI, iN_add, iN_mul, iN_le, iN_lt, iN_eq, Nat.le_refl, qfN0, qfN1, uX_16, vX_16, uX_19, vX_19, uX_27, vX_27, uX_30, vX_30, uX_39, vX_39, uX_41, vX_41, uX_43, vX_43, uX_46, vX_46, uX_50, vX_50, uX_53, vX_53]
/-- a facet with the corners' numbers -/
theorem x_squeeze2 {y : Nat} (ok : okP l D) (hy : y < 65536) : qMC (d + 1) 37 [.int (iN y), .int (iN (mask (fun p => tB (corP l D p)) l.length))] h R ↔ R = (some (.int (iN (sqP l D y l.length))), h) := x_squeeze (g := sqP l D y) hy ok.2.2.1 rfl fun _ _ => rfl
/-- an order of places by what stands there: a list of places, sorted by values -/
def rkL (V : Nat → Nat) (m : Nat) (rk : Nat → Nat) : Prop := (∀ a, a < m → rk a < m) ∧ (∀ a b, a < b → b < m → V (rk a) < V (rk b)) ∧ ∀ j, j < m → ∃ a, a < m ∧ rk a = j
def rkI (V : Nat → Nat) (rk : Nat → Nat) (j t : Nat) : Nat → Nat := fun k => if k < t then rk k else if k = t then j else rk (k - 1)
theorem rkL.add {V rk : Nat → Nat} {m t : Nat} (v : rkL V m rk) (ht : t ≤ m) (lo : ∀ k, k < t → V (rk k) < V m) (hi' : ∀ k, t ≤ k → k < m → V m < V (rk k)) : rkL V (m + 1) (rkI V rk m t) := by
  obtain ⟨v1, v2, v3⟩ := v
  refine ⟨fun a ha => ?_, fun a b hab hb => ?_, fun j hj => ?_⟩
  · unfold rkI
    split
    · have := v1 a (by omega); omega
    · split
      · omega
      · have := v1 (a - 1) (by omega); omega
  · unfold rkI
    by_cases a1 : a < t
    · rw [if_pos a1]
      by_cases b1 : b < t
      · rw [if_pos b1]; exact v2 a b hab (by omega)
      · rw [if_neg b1]
        by_cases b2 : b = t
        · rw [if_pos b2]; exact lo a a1
        · rw [if_neg b2]; exact v2 a (b - 1) (by omega) (by omega)
    · rw [if_neg a1, if_neg (show ¬ b < t by omega), if_neg (show ¬ b = t by omega)]
      by_cases a2 : a = t
      · rw [if_pos a2]; exact hi' (b - 1) (by omega) (by omega)
      · rw [if_neg a2]; exact v2 (a - 1) (b - 1) (by omega) (by omega)
  · by_cases e : j = m
    · exact ⟨t, by omega, by unfold rkI; rw [if_neg (Nat.lt_irrefl t), if_pos rfl, e]⟩
    · obtain ⟨a, ha, ea⟩ := v3 j (by omega)
      by_cases q : a < t
      · exact ⟨a, by omega, by unfold rkI; rw [if_pos q]; exact ea⟩
      · exact ⟨a + 1, by omega, by unfold rkI; rw [if_neg (by omega), if_neg (by omega)]; exact ea⟩
set_option maxRecDepth 100000 in
set_option maxHeartbeats 16000000 in
theorem x_rankFacets {m : Nat} {V : Nat → Nat} (s : ShX h) (hm : xi h 19 6 = iN m) (m104 : m ≤ 104) (hV : ∀ j, j < m → hi h 21 j = iN (V j) ∧ V j < 65536) (hne : ∀ a b, a < b → b < m → V a ≠ V b) : ∃ h' rk, (∀ R, qMC (d + 1) 38 [.ref 19] h R ↔ R = (none, h')) ∧ ChX [25] [] 0 h h' ∧ rkL V m rk ∧ ∀ j, j < m → hi h' 25 j = iN (rk j) := by
  have k25 := kX_25 s
  -- one place more
  have one : ∀ (j : Nat) (rk : Nat → Nat) (h1 : qH) (x2 : Option Value), j < m → ChX [25] [] 0 h h1 → rkL V j rk → (∀ t, t < j → hi h1 25 t = iN (rk t)) → ∃ h2 x2', (∀ R, qEv d 4 qk_38 2 [some (.ref 19), some (.int (iN j)), x2] [] h1 R ↔ qEv d 4 qk_38 2 [some (.ref 19), some (.int (iN (j + 1))), x2'] [] h2 R) ∧ ChX [25] [] 0 h h2 ∧ ∃ rk', rkL V (j + 1) rk' ∧ ∀ t, t < j + 1 → hi h2 25 t = iN (rk' t) := by
    intro j rk h1 x2 hj ch1 rl hr
    have s1 := ch1.sh
    have m1 : xi h1 19 6 = iN m := (ch1.xi (by decide) (by decide)).trans hm
    have v21 : ∀ t, t < m → qiald h1 21 (iN t) = some (iN (V t)) := fun t ht => by rw [rX_21 s1 (by omega), ch1.hi (by decide) (by decide) (s.lt (by decide)), (hV t ht).1]
    obtain ⟨g0, eg0⟩ : ∃ g0, g0 = hi h1 25 := ⟨_, rfl⟩
    -- the row while places move up: the hole at t
    obtain ⟨Hh, eH⟩ : ∃ Hh : Nat → qH, Hh = fun t => sI h1 25 (fun k => if t < k ∧ k ≤ j then g0 (k - 1) else g0 k) := ⟨_, rfl⟩
    have k251 := kX_25 s1
    have cH : ∀ t, ChX [25] [] 0 h (Hh t) := fun t => by rw [eH]; exact ch1.trans0 (ChX.rowI s1 k251 (by decide) (by decide))
    have sH : ∀ t, ShX (Hh t) := fun t => (cH t).sh
    have Hj : h1 = Hh j := by
      rw [eH]
      have : (fun k => if j < k ∧ k ≤ j then g0 (k - 1) else g0 k) = hi h1 25 := by funext k; rw [if_neg (by omega), eg0]
      show h1 = sI h1 25 (fun k => if j < k ∧ k ≤ j then g0 (k - 1) else g0 k)
      rw [this, sI_id k251]
    have h21 : ∀ t a, a < m → qiald (Hh t) 21 (iN a) = some (iN (V a)) := fun t a ha => by
      rw [rX_21 (sH t) (by omega), (cH t).hi (by decide) (by decide) (s.lt (by decide)), (hV a ha).1]
    have m2 : ∀ t, xi (Hh t) 19 6 = iN m := fun t => ((cH t).xi (by decide) (by decide)).trans hm
    have h25 : ∀ t k, k < t → t ≤ j → qiald (Hh t) 25 (iN k) = some (iN (rk k)) := fun t k hk ht => by
      rw [rX_25 (sH t) (by omega), eH]
      show some (hi (sI h1 25 _) 25 k) = _
      rw [hi_sI, if_pos rfl, if_neg (by omega), eg0, hr k (by omega)]
    -- the place
    have end1 : ∀ t, t ≤ j → (∀ k, k < t → V (rk k) < V j) → (∀ k, t ≤ k → k < j → V j < V (rk k)) → ∃ h2, (∀ R, qEv d 4 qk_38 58 [some (.ref 19), some (.int (iN j)), some (.int (iN t))] [] (Hh t) R ↔ qEv d 4 qk_38 2 [some (.ref 19), some (.int (iN (j + 1))), some (.int (iN t))] [] h2 R) ∧ ChX [25] [] 0 h h2 ∧ rkL V (j + 1) (rkI V rk j t) ∧ ∀ k, k < j + 1 → hi h2 25 k = iN (rkI V rk j t k) := by
      intro t ht lo hi'
      have st := sH t
      obtain ⟨h2, e2⟩ : ∃ h2, h2 = sI (Hh t) 25 (upd (hi (Hh t) 25) t (iN j)) := ⟨_, rfl⟩
      have w2 : qiast (Hh t) 25 (iN t) (iN j) = some h2 := by rw [e2]; exact wX_25 st (by omega)
      refine ⟨h2, fun R => ?_, (cH t).trans0 (by rw [e2]; exact ChX.rowI st (kX_25 st) (by decide) (by decide)), rl.add ht lo hi', fun k hk => ?_⟩
      · rw [e38_58]
        simp (disch := first | assumption | omega) only [e38_0, e38_1, e38_3, e38_4, e38_7, e38_10, e38_11, e38_12, e38_13, e38_16, e38_17, e38_20, e38_21, e38_24, e38_25, e38_26, e38_27, e38_28, e38_29, e38_30, e38_33, e38_34, e38_35, e38_38, e38_39, e38_42, e38_43, e38_44, e38_47, e38_48, e38_49, e38_50, e38_51, e38_52, e38_55, e38_59, e38_62, e38_63, e38_64, e38_65, e38_68, e38_71, m38, ↓reduceIte, qg_0, qg_1, qg_2, qg_3, qg_4, qg_5, qg_6, qg_7, qg_8, qg_9, qg_10, qg_11, qg_12, qg_13, not_true_eq_false, not_false_eq_true, Nat.reduceBEq, Bool.false_eq_true, ex1, ex3, ex4, exF, qfit_i, qfit_l, qfit_r, qfit_n, qfit_b0, qfit_b1, qcat_i, qcat_r, qcat_n, qcat_l, qroom_0, qroom_c, List.map_cons, List.map_nil, List.sum_cons, List.sum_nil, Nat.reduceAdd, Nat.reduceMul, Nat.reduceLT, Nat.reduceLeDiff, Nat.reduceEqDiff, Nat.reduceSub, decide_true, true_and, and_true, and_self, if_true, if_false, Option.toList_some, Option.toList_none, List.cons_append, List.nil_append, qsL, qlong, List.length_cons, List.length_nil, iN_L, exI, iN_add, iN_mul, iN_le, iN_lt, iN_eq, Nat.le_refl, qfN0, qfN1, uX_16, vX_16, uX_19, vX_19, uX_27, vX_27, uX_30, vX_30, uX_39, vX_39, uX_41, vX_41, uX_43, vX_43, uX_46, vX_46, uX_50, vX_50, uX_53, vX_53, gX_19_9, w2]
      · rw [e2, hi_sI, if_pos rfl]
        show (if k = t then iN j else hi (Hh t) 25 k) = _
        unfold rkI
        rw [eH]
        show (if k = t then iN j else hi (sI h1 25 _) 25 k) = _
        rw [hi_sI, if_pos rfl]
        by_cases z1 : k < t
        · rw [if_neg (by omega), if_pos z1, if_neg (by omega), eg0, hr k (by omega)]
        · rw [if_neg z1]
          by_cases z2 : k = t
          · rw [if_pos z2, if_pos z2]
          · rw [if_neg z2, if_neg z2, if_pos (by omega), eg0, hr (k - 1) (by omega)]
    have down : ∀ t, t ≤ j → (∀ k, t ≤ k → k < j → V j < V (rk k)) → ∃ t', t' ≤ j ∧ (∀ k, k < t' → V (rk k) < V j) ∧ (∀ k, t' ≤ k → k < j → V j < V (rk k)) ∧ ∀ R, qEv d 4 qk_38 12 [some (.ref 19), some (.int (iN j)), some (.int (iN t))] [] (Hh t) R ↔ qEv d 4 qk_38 58 [some (.ref 19), some (.int (iN j)), some (.int (iN t'))] [] (Hh t') R := by
      intro t
      induction t with
      | zero =>
        intro ht hi'
        refine ⟨0, ht, fun k hk => absurd hk (Nat.not_lt_zero k), hi', fun R => ?_⟩
        have st := sH 0
        rw [e38_12]
        simp (disch := first | assumption | omega) only [e38_0, e38_1, e38_2, e38_3, e38_4, e38_7, e38_10, e38_11, e38_13, e38_16, e38_17, e38_20, e38_21, e38_24, e38_25, e38_26, e38_27, e38_28, e38_29, e38_30, e38_33, e38_34, e38_35, e38_38, e38_39, e38_42, e38_43, e38_44, e38_47, e38_48, e38_49, e38_50, e38_51, e38_52, e38_55, e38_59, e38_62, e38_63, e38_64, e38_65, e38_68, e38_71, m38, ↓reduceIte, qg_0, qg_1, qg_2, qg_3, qg_4, qg_5, qg_6, qg_7, qg_8, qg_9, qg_10, qg_11, qg_12, qg_13, not_true_eq_false, not_false_eq_true, Nat.reduceBEq, Bool.false_eq_true, ex1, ex3, ex4, exF, qfit_i, qfit_l, qfit_r, qfit_n, qfit_b0, qfit_b1, qcat_i, qcat_r, qcat_n, qcat_l, qroom_0, qroom_c, List.map_cons, List.map_nil, List.sum_cons, List.sum_nil, Nat.reduceAdd, Nat.reduceMul, Nat.reduceLT, Nat.reduceLeDiff, Nat.reduceEqDiff, Nat.reduceSub, decide_true, true_and, and_true, and_self, if_true, if_false, Option.toList_some, Option.toList_none, List.cons_append, List.nil_append, qsL, qlong, List.length_cons, List.length_nil, iN_L, exI, iN_add, iN_mul, iN_le, iN_lt, iN_eq, Nat.le_refl, qfN0, qfN1, uX_16, vX_16, uX_19, vX_19, uX_27, vX_27, uX_30, vX_30, uX_39, vX_39, uX_41, vX_41, uX_43, vX_43, uX_46, vX_46, uX_50, vX_50, uX_53, vX_53]
      | succ t ih =>
        intro ht hi'
        have st := sH (t + 1)
        have q1 := h25 (t + 1) t (by omega) ht
        have rkm := rl.1 t (by omega)
        have q2 := h21 (t + 1) (rk t) (by omega)
        have q3 := h21 (t + 1) j hj
        have b1 := (hV (rk t) (by omega)).2
        have b2 := (hV j hj).2
        have es : iN (t + 1) - iN 1 = iN t := by rw [iN_sub (by omega)]; rfl
        have ne := hne (rk t) j (by omega) hj
        by_cases z : V j < V (rk t)
        · obtain ⟨t', a1, a2, a3, a4⟩ := ih (by omega) (fun k hk hk2 => by
            rcases Nat.lt_or_ge t k with y | y
            · exact hi' k (by omega) hk2
            · rw [show k = t by omega]; exact z)
          refine ⟨t', a1, a2, a3, fun R => ?_⟩
          have w1 : qiast (Hh (t + 1)) 25 (iN (t + 1)) (iN (rk t)) = some (Hh t) := by
            rw [wX_25 st (by omega), eH]
            show some (sI (sI h1 25 _) 25 (upd (hi (sI h1 25 _) 25) (t + 1) (iN (rk t)))) = _
            rw [sI_sI, hi_sI, if_pos rfl]
            congr 2
            funext k
            show (if k = t + 1 then iN (rk t) else (if t + 1 < k ∧ k ≤ j then g0 (k - 1) else g0 k)) = _
            by_cases e : k = t + 1
            · rw [if_pos e, if_pos (by omega), e, eg0, show t + 1 - 1 = t by omega, hr t (by omega)]
            · rw [if_neg e]
              by_cases e2 : t + 1 < k ∧ k ≤ j
              · rw [if_pos e2, if_pos (by omega)]
              · rw [if_neg e2, if_neg (by omega)]
          have dc : iN (t + 1) + -iN 1 = iN t := by rw [kv_dec']; rfl
          rw [← a4 R, e38_12]
          simp (disch := first | assumption | omega) only [e38_0, e38_1, e38_2, e38_3, e38_4, e38_7, e38_10, e38_11, e38_13, e38_16, e38_17, e38_20, e38_21, e38_24, e38_25, e38_26, e38_27, e38_28, e38_29, e38_30, e38_33, e38_34, e38_35, e38_38, e38_39, e38_42, e38_43, e38_44, e38_47, e38_48, e38_49, e38_50, e38_51, e38_52, e38_55, e38_59, e38_62, e38_63, e38_64, e38_65, e38_68, e38_71, m38, ↓reduceIte, qg_0, qg_1, qg_2, qg_3, qg_4, qg_5, qg_6, qg_7, qg_8, qg_9, qg_10, qg_11, qg_12, qg_13, not_true_eq_false, not_false_eq_true, Nat.reduceBEq, Bool.false_eq_true, ex1, ex3, ex4, exF, qfit_i, qfit_l, qfit_r, qfit_n, qfit_b0, qfit_b1, qcat_i, qcat_r, qcat_n, qcat_l, qroom_0, qroom_c, List.map_cons, List.map_nil, List.sum_cons, List.sum_nil, Nat.reduceAdd, Nat.reduceMul, Nat.reduceLT, Nat.reduceLeDiff, Nat.reduceEqDiff, Nat.reduceSub, decide_true, true_and, and_true, and_self, if_true, if_false, Option.toList_some, Option.toList_none, List.cons_append, List.nil_append, qsL, qlong, List.length_cons, List.length_nil, iN_L, exI, iN_add, iN_mul, iN_le, iN_lt, iN_eq, Nat.le_refl, qfN0, qfN1, uX_16, vX_16, uX_19, vX_19, uX_27, vX_27, uX_30, vX_30, uX_39, vX_39, uX_41, vX_41, uX_43, vX_43, uX_46, vX_46, uX_50, vX_50, uX_53, vX_53, show ¬ t + 1 ≤ 0 by omega, gX_19_4, gX_19_9, es, q1, q2, q3, show ¬ V (rk t) ≤ V j by omega, w1, dc]
        · refine ⟨t + 1, ht, fun k hk => ?_, hi', fun R => ?_⟩
          · rcases Nat.lt_or_ge k t with y | y
            · have := rl.2.1 k t y (by omega); omega
            · rw [show k = t by omega]; omega
          · rw [e38_12]
            simp (disch := first | assumption | omega) only [e38_0, e38_1, e38_2, e38_3, e38_4, e38_7, e38_10, e38_11, e38_13, e38_16, e38_17, e38_20, e38_21, e38_24, e38_25, e38_26, e38_27, e38_28, e38_29, e38_30, e38_33, e38_34, e38_35, e38_38, e38_39, e38_42, e38_43, e38_44, e38_47, e38_48, e38_49, e38_50, e38_51, e38_52, e38_55, e38_59, e38_62, e38_63, e38_64, e38_65, e38_68, e38_71, m38, ↓reduceIte, qg_0, qg_1, qg_2, qg_3, qg_4, qg_5, qg_6, qg_7, qg_8, qg_9, qg_10, qg_11, qg_12, qg_13, not_true_eq_false, not_false_eq_true, Nat.reduceBEq, Bool.false_eq_true, ex1, ex3, ex4, exF, qfit_i, qfit_l, qfit_r, qfit_n, qfit_b0, qfit_b1, qcat_i, qcat_r, qcat_n, qcat_l, qroom_0, qroom_c, List.map_cons, List.map_nil, List.sum_cons, List.sum_nil, Nat.reduceAdd, Nat.reduceMul, Nat.reduceLT, Nat.reduceLeDiff, Nat.reduceEqDiff, Nat.reduceSub, decide_true, true_and, and_true, and_self, if_true, if_false, Option.toList_some, Option.toList_none, List.cons_append, List.nil_append, qsL, qlong, List.length_cons, List.length_nil, iN_L, exI, iN_add, iN_mul, iN_le, iN_lt, iN_eq, Nat.le_refl, qfN0, qfN1, uX_16, vX_16, uX_19, vX_19, uX_27, vX_27, uX_30, vX_30, uX_39, vX_39, uX_41, vX_41, uX_43, vX_43, uX_46, vX_46, uX_50, vX_50, uX_53, vX_53, show ¬ t + 1 ≤ 0 by omega, gX_19_4, gX_19_9, es, q1, q2, q3, show V (rk t) ≤ V j by omega]
    obtain ⟨t', a1, a2, a3, a4⟩ := down j (Nat.le_refl _) (fun k h1 h2 => by omega)
    obtain ⟨h2, b1, b2, b3, b4⟩ := end1 t' a1 a2 a3
    refine ⟨h2, some (.int (iN t')), fun R => ?_, b2, rkI V rk j t', b3, b4⟩
    rw [← b1 R, ← a4 R, ← Hj, e38_2]
    simp (disch := first | assumption | omega) only [e38_0, e38_1, e38_3, e38_4, e38_7, e38_10, e38_11, e38_13, e38_16, e38_17, e38_20, e38_21, e38_24, e38_25, e38_26, e38_27, e38_28, e38_29, e38_30, e38_33, e38_34, e38_35, e38_38, e38_39, e38_42, e38_43, e38_44, e38_47, e38_48, e38_49, e38_50, e38_51, e38_52, e38_55, e38_59, e38_62, e38_63, e38_64, e38_65, e38_68, e38_71, m38, ↓reduceIte, qg_0, qg_1, qg_2, qg_3, qg_4, qg_5, qg_6, qg_7, qg_8, qg_9, qg_10, qg_11, qg_12, qg_13, not_true_eq_false, not_false_eq_true, Nat.reduceBEq, Bool.false_eq_true, ex1, ex3, ex4, exF, qfit_i, qfit_l, qfit_r, qfit_n, qfit_b0, qfit_b1, qcat_i, qcat_r, qcat_n, qcat_l, qroom_0, qroom_c, List.map_cons, List.map_nil, List.sum_cons, List.sum_nil, Nat.reduceAdd, Nat.reduceMul, Nat.reduceLT, Nat.reduceLeDiff, Nat.reduceEqDiff, Nat.reduceSub, decide_true, true_and, and_true, and_self, if_true, if_false, Option.toList_some, Option.toList_none, List.cons_append, List.nil_append, qsL, qlong, List.length_cons, List.length_nil, iN_L, exI, iN_add, iN_mul, iN_le, iN_lt, iN_eq, Nat.le_refl, qfN0, qfN1, uX_16, vX_16, uX_19, vX_19, uX_27, vX_27, uX_30, vX_30, uX_39, vX_39, uX_41, vX_41, uX_43, vX_43, uX_46, vX_46, uX_50, vX_50, uX_53, vX_53, gX_19_6, m1, show ¬ m ≤ j by omega]
  have go : ∀ (w j : Nat) (rk : Nat → Nat) (h1 : qH) (x2 : Option Value), j + w = m → ChX [25] [] 0 h h1 → rkL V j rk → (∀ t, t < j → hi h1 25 t = iN (rk t)) → ∃ h' rk, (∀ R, qEv d 4 qk_38 2 [some (.ref 19), some (.int (iN j)), x2] [] h1 R ↔ R = (none, h')) ∧ ChX [25] [] 0 h h' ∧ rkL V m rk ∧ ∀ j, j < m → hi h' 25 j = iN (rk j) := by
    intro w
    induction w with
    | zero =>
      intro j rk h1 x2 hj ch1 rl hr
      have ej : j = m := by omega
      subst ej
      have s1 := ch1.sh
      have m1 : xi h1 19 6 = iN j := (ch1.xi (by decide) (by decide)).trans hm
      refine ⟨h1, rk, fun R => ?_, ch1, rl, hr⟩
      rw [e38_2]
      simp (disch := first | assumption | omega) only [e38_0, e38_1, e38_3, e38_4, e38_7, e38_10, e38_11, e38_13, e38_16, e38_17, e38_20, e38_21, e38_24, e38_25, e38_26, e38_27, e38_28, e38_29, e38_30, e38_33, e38_34, e38_35, e38_38, e38_39, e38_42, e38_43, e38_44, e38_47, e38_48, e38_49, e38_50, e38_51, e38_52, e38_55, e38_59, e38_62, e38_63, e38_64, e38_65, e38_68, e38_71, m38, ↓reduceIte, qg_0, qg_1, qg_2, qg_3, qg_4, qg_5, qg_6, qg_7, qg_8, qg_9, qg_10, qg_11, qg_12, qg_13, not_true_eq_false, not_false_eq_true, Nat.reduceBEq, Bool.false_eq_true, ex1, ex3, ex4, exF, qfit_i, qfit_l, qfit_r, qfit_n, qfit_b0, qfit_b1, qcat_i, qcat_r, qcat_n, qcat_l, qroom_0, qroom_c, List.map_cons, List.map_nil, List.sum_cons, List.sum_nil, Nat.reduceAdd, Nat.reduceMul, Nat.reduceLT, Nat.reduceLeDiff, Nat.reduceEqDiff, Nat.reduceSub, decide_true, true_and, and_true, and_self, if_true, if_false, Option.toList_some, Option.toList_none, List.cons_append, List.nil_append, qsL, qlong, List.length_cons, List.length_nil, iN_L, exI, iN_add, iN_mul, iN_le, iN_lt, iN_eq, Nat.le_refl, qfN0, qfN1, uX_16, vX_16, uX_19, vX_19, uX_27, vX_27, uX_30, vX_30, uX_39, vX_39, uX_41, vX_41, uX_43, vX_43, uX_46, vX_46, uX_50, vX_50, uX_53, vX_53, gX_19_6, m1]
    | succ w ih =>
      intro j rk h1 x2 hj ch1 rl hr
      obtain ⟨h2, x2', r2, c2, rk', rl', hr'⟩ := one j rk h1 x2 (by omega) ch1 rl hr
      obtain ⟨h', rk'', r3, c3, rl3, hr3⟩ := ih (j + 1) rk' h2 x2' (by omega) c2 rl' hr'
      exact ⟨h', rk'', fun R => (r2 R).trans (r3 R), c3, rl3, hr3⟩
  obtain ⟨h', rk, r1, c1, rl, hr⟩ := go m 0 (fun _ => 0) h none (by omega) (ChX.refl s) ⟨fun a ha => absurd ha (Nat.not_lt_zero a), fun a b _ hb => absurd hb (Nat.not_lt_zero b), fun j hj => absurd hj (Nat.not_lt_zero j)⟩ (fun t ht => absurd ht (Nat.not_lt_zero t))
  refine ⟨h', rk, fun R => ?_, c1, rl, hr⟩
  rw [← r1 R]
  simp (disch := first | assumption | omega) only [e38_0, e38_1, e38_3, e38_4, e38_7, e38_10, e38_11, e38_12, e38_13, e38_16, e38_17, e38_20, e38_21, e38_24, e38_25, e38_26, e38_27, e38_28, e38_29, e38_30, e38_33, e38_34, e38_35, e38_38, e38_39, e38_42, e38_43, e38_44, e38_47, e38_48, e38_49, e38_50, e38_51, e38_52, e38_55, e38_58, e38_59, e38_62, e38_63, e38_64, e38_65, e38_68, e38_71, m38, ↓reduceIte, qg_0, qg_1, qg_2, qg_3, qg_4, qg_5, qg_6, qg_7, qg_8, qg_9, qg_10, qg_11, qg_12, qg_13, not_true_eq_false, not_false_eq_true, Nat.reduceBEq, Bool.false_eq_true, ex1, ex3, ex4, exF, qfit_i, qfit_l, qfit_r, qfit_n, qfit_b0, qfit_b1, qcat_i, qcat_r, qcat_n, qcat_l, qroom_0, qroom_c, List.map_cons, List.map_nil, List.sum_cons, List.sum_nil, Nat.reduceAdd, Nat.reduceMul, Nat.reduceLT, Nat.reduceLeDiff, Nat.reduceEqDiff, Nat.reduceSub, decide_true, true_and, and_true, and_self, if_true, if_false, Option.toList_some, Option.toList_none, List.cons_append, List.nil_append, qsL, qlong, List.length_cons, List.length_nil, iN_L, exI, iN_add, iN_mul, iN_le, iN_lt, iN_eq, Nat.le_refl, qfN0, qfN1, uX_16, vX_16, uX_19, vX_19, uX_27, vX_27, uX_30, vX_30, uX_39, vX_39, uX_41, vX_41, uX_43, vX_43, uX_46, vX_46, uX_50, vX_50, uX_53, vX_53]
end XCOMMON

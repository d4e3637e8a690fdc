/-! ===== THE CLASS: size, piece ===== -/
section XSIZE
variable {d : Nat} {h : qH} {bs : List bdy} {sa : Nat → Nat} {R : qRes}
theorem pc_ok {i t : Nat} (P : SoP (dmn bs i) (cnr bs i) (cel bs i)) (ht : t < (pcL bs i).length) : (pcL bs i).getD t 0 < 2 ^ (cnr bs i).length ∧ pop ((pcL bs i).getD t 0) 16 = dmn bs i + 1 ∧ (pcL bs i).getD t 0 < 65536 := by
  have hD := P.1
  have n16 := P.2.1.2
  have hne : ∀ k y, y ∈ cel bs i k → 0 < y ∧ y < 65536 := fun k y hy => by
    by_cases k4 : k < 4
    · obtain ⟨j, j1, j2⟩ := nat_mem.mp hy
      rw [← j2]
      exact (P.2.2.2.2.1 k k4).2 j j1
    · rw [P.2.2.2.2.2.1 k (by omega)] at hy; cases hy
  have two : ∀ y, y ∈ cel bs i 1 → pop y 24 = 2 := fun y hy => by
    obtain ⟨a, b, h1, h2, rfl⟩ := P.2.2.2.2.2.2.1 y hy
    rw [pop_24 (pair_lt (by omega) (by omega)), pair_pop (by omega) (by omega) (by omega)]
  have hmem : (pcL bs i).getD t 0 ∈ pcL bs i := by rw [List.getD_eq_getElem?_getD, List.getElem?_eq_getElem ht]; exact List.getElem_mem ht
  obtain ⟨y, ey⟩ : ∃ y, y = (pcL bs i).getD t 0 := ⟨_, rfl⟩
  rw [← ey] at hmem ⊢
  unfold pcL at hmem
  have pp := Nat.two_pow_pos (cnr bs i).length
  have pn : 2 ^ (cnr bs i).length ≤ 65536 := show _ ≤ 2 ^ 16 from Nat.pow_le_pow_right (by decide) n16
  have p2 : 2 ≤ 2 ^ (cnr bs i).length := show 2 ^ 1 ≤ _ from Nat.pow_le_pow_right (by decide) (by have := P.2.1.1; omega)
  have key := pcs_pop hne two (dmn bs i - 1) (2 ^ (cnr bs i).length - 1) 0 (by omega) (by omega) (by decide) (fun c hc => by rw [Nat.zero_testBit] at hc; cases hc.2) (fun z => by omega) y (by rw [show dmn bs i - 1 + 1 = dmn bs i by omega]; exact hmem)
  have z24 : pop 0 24 = 0 := by decide
  have bl : y < 2 ^ (cnr bs i).length := by
    apply Nat.lt_pow_two_of_testBit
    intro c hc
    cases e : y.testBit c with
    | false => rfl
    | true =>
      rcases key.2 c e with z | z
      · rw [Nat.testBit_two_pow_sub_one] at z
        have := of_decide_eq_true z
        omega
      · rw [Nat.zero_testBit] at z; cases z
  refine ⟨bl, ?_, by omega⟩
  rw [← pop_24 (by omega), key.1, z24]
  omega
set_option maxRecDepth 100000 in
set_option maxHeartbeats 16000000 in
theorem x_size {x : Int32} {v : Int64} (s : ShX h) (X : BsX h bs sa) (fn : FnX h) (hp : ∀ i, i < bs.length → (pcL bs i).length ≤ 256) (hv : sizR bs x v) : ∃ (h' : qH) (A : List Nat), (∀ R, qMC (d + 9) 168 [.ref 16, .int x] h R ↔ R = (some (.long v), h')) ∧ (∀ x ∈ A, 97 ≤ x ∨ x = 23 ∨ x = 24) ∧ ChX A [] 4 h h' ∧ BsX h' bs sa ∧ FnX h' := by
  rcases hv with ⟨hx, rfl⟩ | ⟨i, ⟨hi', rfl⟩, rfl⟩
  · have b : ∀ R, qMC (d + 8) 179 [.ref 16, .int x] h R ↔ R = (some .null, h) := fun R => x_bodyAt0 s X hx
    refine ⟨h, [], fun R => ?_, fun x hx => (by cases hx), ChX.refl s, X, fn⟩
    simp (disch := first | assumption | omega) only [e168_0, e168_1, e168_2, e168_5, e168_6, e168_7, e168_7N, e168_10, e168_13, e168_14, e168_15, e168_18, e168_19, e168_20, e168_22, e168_23, e168_27, e168_28, e168_29, e168_32, e168_34, e168_35, e168_38, e168_39, e168_40, e168_42, e168_43, e168_46, e168_47, e168_49, e168_52, e168_55, e168_57, m168, ↓reduceIte, qg_0, qg_1, qg_2, qg_3, qg_4, qg_5, qg_6, qg_7, qg_8, qg_9, qg_10, qg_11, qg_12, qg_13, not_true_eq_false, not_false_eq_true, Nat.reduceBEq, Bool.false_eq_true, ex1, ex3, ex4, exF, qfit_i, qfit_l, qfit_r, qfit_n, qfit_b0, qfit_b1, qcat_i, qcat_r, qcat_n, qcat_l, qroom_0, qroom_c, List.map_cons, List.map_nil, List.sum_cons, List.sum_nil, Nat.reduceAdd, Nat.reduceMul, Nat.reduceLT, Nat.reduceLeDiff, Nat.reduceEqDiff, Nat.reduceSub, decide_true, true_and, and_true, and_self, if_true, if_false, Option.toList_some, Option.toList_none, List.cons_append, List.nil_append, qsL, qlong, List.length_cons, List.length_nil, iN_L, exI, iN_add, iN_mul, iN_le, iN_lt, iN_eq, Nat.le_refl, qfN0, qfN1, uX_16, vX_16, uX_19, vX_19, uX_27, vX_27, uX_30, vX_30, uX_39, vX_39, uX_41, vX_41, uX_43, vX_43, uX_46, vX_46, uX_50, vX_50, uX_53, vX_53, b]
    try exact Iff.rfl
  · have b : ∀ R, qMC (d + 8) 179 [.ref 16, .int (iN i)] h R ↔ R = (some (.ref (sa i)), h) := fun R => x_bodyAt1 s X hi'
    obtain ⟨p, q, w, e, B, S, P⟩ := X.at hi'
    obtain ⟨⟨u16, ult, uF⟩, g0, g1, g2, g3, g4, g5, g6⟩ := S.obj
    obtain ⟨h1, r, A, r1, hA, c1, X1, fn1, k1, v1⟩ := x_piecesOf (d := d) s X fn hi' (hp i hi')
    have s1 := c1.sh
    have pl := hp i hi'
    have rl : r < h1.2.1 := k1.1.2.2
    have rn : r ∉ [23, 24] ∧ r ∉ XO := by
      refine ⟨fun y => ?_, fun y => ?_⟩
      · simp only [List.mem_cons, List.not_mem_nil, or_false] at y
        rcases y with z | z
        · have k23 := kX_23 s1
          obtain ⟨f1, y1⟩ := k1.2; obtain ⟨f2, y2⟩ := k23.2
          rw [z, y2] at y1; cases y1
        · have k24 := kX_24 s1
          obtain ⟨f1, y1⟩ := k1.2; obtain ⟨f2, y2⟩ := k24.2
          rw [z, y2] at y1; cases y1
      · obtain ⟨ci, hc⟩ := (by decide : ∀ x ∈ XO, (∃ ci, ci < 20 ∧ (x, ci) ∈ XOs)) r y
        exact kO_kI (s1.1 _ hc.2) k1
    have go : ∀ (w' t : Nat) (g : qH), t + w' = (pcL bs i).length → ChX [23, 24] [] 0 h1 g → ∃ h', (∀ R, qEv (d + 8) 1 qk_168 25 [some (.ref 16), some (.int (iN i)), some (.ref (sa i)), some (.ref r), some (.long (lZ (szS bs i t))), none, some (.int (iN t))] [] g R ↔ R = (some (.long (lZ (szS bs i (pcL bs i).length))), h')) ∧ ChX [23, 24] [] 0 h1 h' := by
      intro w'
      induction w' with
      | zero =>
        intro t g ht cg
        have et : t = (pcL bs i).length := by omega
        subst et
        have sg := cg.sh
        have kg : kI g r (pcL bs i).length := k1.sm cg.1.2.1 (cg.at rn.1 rn.2 rl)
        have ln := lnI kg
        refine ⟨g, fun R => ?_, cg⟩
        rw [e168_25]
        simp (disch := first | assumption | omega) only [e168_0, e168_1, e168_2, e168_5, e168_6, e168_7, e168_7N, e168_10, e168_13, e168_14, e168_15, e168_18, e168_19, e168_20, e168_22, e168_23, e168_27, e168_28, e168_29, e168_32, e168_34, e168_35, e168_38, e168_39, e168_40, e168_42, e168_43, e168_46, e168_47, e168_49, e168_52, e168_55, e168_57, m168, ↓reduceIte, qg_0, qg_1, qg_2, qg_3, qg_4, qg_5, qg_6, qg_7, qg_8, qg_9, qg_10, qg_11, qg_12, qg_13, not_true_eq_false, not_false_eq_true, Nat.reduceBEq, Bool.false_eq_true, ex1, ex3, ex4, exF, qfit_i, qfit_l, qfit_r, qfit_n, qfit_b0, qfit_b1, qcat_i, qcat_r, qcat_n, qcat_l, qroom_0, qroom_c, List.map_cons, List.map_nil, List.sum_cons, List.sum_nil, Nat.reduceAdd, Nat.reduceMul, Nat.reduceLT, Nat.reduceLeDiff, Nat.reduceEqDiff, Nat.reduceSub, decide_true, true_and, and_true, and_self, if_true, if_false, Option.toList_some, Option.toList_none, List.cons_append, List.nil_append, qsL, qlong, List.length_cons, List.length_nil, iN_L, exI, iN_add, iN_mul, iN_le, iN_lt, iN_eq, Nat.le_refl, qfN0, qfN1, uX_16, vX_16, uX_19, vX_19, uX_27, vX_27, uX_30, vX_30, uX_39, vX_39, uX_41, vX_41, uX_43, vX_43, uX_46, vX_46, uX_50, vX_50, uX_53, vX_53, ln]
      | succ w' ih =>
        intro t g ht cg
        have sg := cg.sh
        have Xg := X1.ch s1 cg (by decide) (by decide) (by decide)
        have ht' : t < (pcL bs i).length := by omega
        have kg : kI g r (pcL bs i).length := k1.sm cg.1.2.1 (cg.at rn.1 rn.2 rl)
        have ln := lnI kg
        have rd : qiald g r (iN t) = some (iN ((pcL bs i).getD t 0)) := by rw [rdI kg ht', cg.hi rn.1 rn.2 rl, v1 t ht']
        obtain ⟨o1, o2, -⟩ := pc_ok P ht'
        obtain ⟨g2', rs, cs⟩ := x_sizeOf (d := d + 4) sg Xg hi' o1 o2
        obtain ⟨h', r', c'⟩ := ih (t + 1) g2' (by omega) (cg.trans0 cs)
        refine ⟨h', fun R => ?_, c'⟩
        rw [← r' R, e168_25, show szS bs i (t + 1) = szS bs i t + (szP bs i ((pcL bs i).getD t 0) : Int) from rfl]
        simp (disch := first | assumption | omega) only [e168_0, e168_1, e168_2, e168_5, e168_6, e168_7, e168_7N, e168_10, e168_13, e168_14, e168_15, e168_18, e168_19, e168_20, e168_22, e168_23, e168_27, e168_28, e168_29, e168_32, e168_34, e168_35, e168_38, e168_39, e168_40, e168_42, e168_43, e168_46, e168_47, e168_49, e168_52, e168_55, e168_57, m168, ↓reduceIte, qg_0, qg_1, qg_2, qg_3, qg_4, qg_5, qg_6, qg_7, qg_8, qg_9, qg_10, qg_11, qg_12, qg_13, not_true_eq_false, not_false_eq_true, Nat.reduceBEq, Bool.false_eq_true, ex1, ex3, ex4, exF, qfit_i, qfit_l, qfit_r, qfit_n, qfit_b0, qfit_b1, qcat_i, qcat_r, qcat_n, qcat_l, qroom_0, qroom_c, List.map_cons, List.map_nil, List.sum_cons, List.sum_nil, Nat.reduceAdd, Nat.reduceMul, Nat.reduceLT, Nat.reduceLeDiff, Nat.reduceEqDiff, Nat.reduceSub, decide_true, true_and, and_true, and_self, if_true, if_false, Option.toList_some, Option.toList_none, List.cons_append, List.nil_append, qsL, qlong, List.length_cons, List.length_nil, iN_L, exI, iN_add, iN_mul, iN_le, iN_lt, iN_eq, Nat.le_refl, qfN0, qfN1, uX_16, vX_16, uX_19, vX_19, uX_27, vX_27, uX_30, vX_30, uX_39, vX_39, uX_41, vX_41, uX_43, vX_43, uX_46, vX_46, uX_50, vX_50, uX_53, vX_53, ln, show ¬ (pcL bs i).length ≤ t by omega, gX_16_4, rd, rs, lZ_add]
    obtain ⟨h', r', c'⟩ := go (pcL bs i).length 0 h1 (by omega) (ChX.refl s1)
    have X' := X1.ch s1 c' (by decide) (by decide) (by decide)
    refine ⟨h', A ++ [23, 24], fun R => ?_, fun y hy => ?_, ?_, X', fn1.ch c' (by decide) (fun y hy _ k => ?_)⟩
    · rw [← r' R, show szS bs i 0 = 0 from rfl]
      simp (disch := first | assumption | omega) only [e168_0, e168_1, e168_2, e168_5, e168_6, e168_7, e168_7N, e168_10, e168_13, e168_14, e168_15, e168_18, e168_19, e168_20, e168_22, e168_23, e168_27, e168_28, e168_29, e168_32, e168_34, e168_35, e168_38, e168_39, e168_40, e168_42, e168_43, e168_46, e168_47, e168_49, e168_52, e168_55, e168_57, m168, ↓reduceIte, qg_0, qg_1, qg_2, qg_3, qg_4, qg_5, qg_6, qg_7, qg_8, qg_9, qg_10, qg_11, qg_12, qg_13, not_true_eq_false, not_false_eq_true, Nat.reduceBEq, Bool.false_eq_true, ex1, ex3, ex4, exF, qfit_i, qfit_l, qfit_r, qfit_n, qfit_b0, qfit_b1, qcat_i, qcat_r, qcat_n, qcat_l, qroom_0, qroom_c, List.map_cons, List.map_nil, List.sum_cons, List.sum_nil, Nat.reduceAdd, Nat.reduceMul, Nat.reduceLT, Nat.reduceLeDiff, Nat.reduceEqDiff, Nat.reduceSub, decide_true, true_and, and_true, and_self, if_true, if_false, Option.toList_some, Option.toList_none, List.cons_append, List.nil_append, qsL, qlong, List.length_cons, List.length_nil, iN_L, exI, iN_add, iN_mul, iN_le, iN_lt, iN_eq, Nat.le_refl, qfN0, qfN1, uX_16, vX_16, uX_19, vX_19, uX_27, vX_27, uX_30, vX_30, uX_39, vX_39, uX_41, vX_41, uX_43, vX_43, uX_46, vX_46, uX_50, vX_50, uX_53, vX_53, b, u16, ult, uF, g0, g1, g2, g3, g4, g5, g6, r1, show (0 : Int64) = lZ 0 from rfl]
    · rcases List.mem_append.mp hy with z | z
      · exact Or.inl (hA y z)
      · simp only [List.mem_cons, List.not_mem_nil, or_false] at z
        exact Or.inr z
    · exact (c1.mono (fun y z => List.mem_append.mpr (Or.inl z)) (fun _ z => z) (Nat.le_refl _)).trans (m := 0) (c'.mono (fun y z => List.mem_append.mpr (Or.inr z)) (fun _ z => z) (Nat.le_refl _))
    · simp only [List.mem_cons, List.not_mem_nil, or_false] at hy
      rcases hy with z | z
      · obtain ⟨f1, y1⟩ := k.2; obtain ⟨f2, y2⟩ := (kX_23 s1).2
        rw [z, y2] at y1; cases y1
      · obtain ⟨f1, y1⟩ := k.2; obtain ⟨f2, y2⟩ := (kX_24 s1).2
        rw [z, y2] at y1; cases y1
end XSIZE

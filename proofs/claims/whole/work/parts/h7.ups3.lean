/-! ===== THE CLASS: ups, the call ===== -/
section XUPS3
variable {d : Nat} {h : qH} {bs : List bdy} {sa : Nat → Nat} {R : qRes} {tl : pt4}
set_option maxRecDepth 100000 in
set_option maxHeartbeats 16000000 in
theorem x_countUp {i a b : Nat} (s : ShX h) (X : BsX h bs sa) (tv : TlX h tl) (hi' : i < bs.length) (ha : a < (cnr bs i).length) (hb : b < (cnr bs i).length) : ∃ h', (∀ R, qMC (d + 4) 127 [.ref 43, .ref (sa i), .int (iN a), .int (iN b)] h R ↔ R = (some (.long (lZ ((upS (adjB (cel bs i 1)) (htZ tl (cnr bs i) (dmn bs i)) (cnr bs i).length a (cnr bs i).length).1 b))), h')) ∧ ChX [45] [] 0 h h' := by
  have cW : ∀ V, ChX [45] [] 0 h (sL h 45 (wyR h V)) := fun V => ChX.rowL s (kX_45 s) (by decide) (by decide)
  have XW : ∀ V, BsX (sL h 45 (wyR h V)) bs sa := fun V => X.ch s (cW V) (by decide) (by decide) (by decide)
  have tW : ∀ V, TlX (sL h 45 (wyR h V)) tl := fun V => tv.ch (cW V) s (by decide)
  obtain ⟨n, en⟩ : ∃ n, n = (cnr bs i).length := ⟨_, rfl⟩
  obtain ⟨U, eU⟩ : ∃ U, U = upS (adjB (cel bs i 1)) (htZ tl (cnr bs i) (dmn bs i)) n a := ⟨_, rfl⟩
  have n16 : n ≤ 16 := by obtain ⟨p, q, w, e, B, S, P⟩ := X.at hi'; rw [en]; exact P.2.1.2
  rw [← en] at ha hb
  rw [← en, ← eU]
  have ml : ∀ f, mask f n < 65536 := fun f => mask_16 n16
  have go : ∀ (w k : Nat) (W : Nat → Int) (y6 y7 y8 : Option Value), k + w = n → (∀ c, c < n → W c = (U k).1 c) → ∃ h', (∀ R, qEv (d + 3) 1 qk_127 24 [some (.ref 43), some (.ref (sa i)), some (.int (iN a)), some (.int (iN b)), some (.int (iN (mask (fun c => !(U k).2 c) n))), some (.int (iN k)), y6, y7, y8] [] (sL h 45 (wyR h W)) R ↔ R = (some (.long (lZ ((U n).1 b))), h')) ∧ ChX [45] [] 0 h h' := by
    intro w
    induction w with
    | zero =>
      intro k W y6 y7 y8 hk hW
      have ek : k = n := by omega
      subst ek
      have sW := (cW W).sh
      obtain ⟨p, q, w, e, B, S, P⟩ := (XW W).at hi'
      obtain ⟨⟨u16, ult, uF⟩, g0, g1, g2, g3, g4, g5, g6⟩ := S.obj
      rw [← en] at g1
      have q1 := hw_get (W := W) s (show b < 16 by omega)
      refine ⟨_, fun R => ?_, cW W⟩
      rw [← hW b hb, e127_24]
      simp (disch := first | assumption | omega) only [e127_0, e127_1, e127_4, e127_5, e127_8, e127_9, e127_12, e127_13, e127_14, e127_15, e127_16, e127_19, e127_21, e127_22, e127_26, e127_27, e127_30, e127_33, e127_34, e127_35, e127_37, e127_40, e127_42, e127_44, e127_45, e127_47, e127_48, e127_49, e127_50, e127_51, e127_53, e127_54, e127_57, e127_59, e127_60, e127_62, e127_64, e127_67, e127_69, e127_72, e127_74, e127_75, e127_76, e127_78, e127_81, e127_82, e127_83, e127_85, e127_88, e127_91, e127_92, e127_95, e127_97, e127_98, e127_99, e127_100, e127_103, e127_105, e127_106, e127_107, e127_108, e127_110, e127_112, e127_113, e127_114, e127_115, e127_117, e127_120, e127_123, e127_126, e127_127, e127_130, e127_131, e127_132, m127, ↓reduceIte, qg_0, qg_1, qg_2, qg_3, qg_4, qg_5, qg_6, qg_7, qg_8, qg_9, qg_10, qg_11, qg_12, qg_13, not_true_eq_false, not_false_eq_true, Nat.reduceBEq, Bool.false_eq_true, ex1, ex3, ex4, exF, qfit_i, qfit_l, qfit_r, qfit_n, qfit_b0, qfit_b1, qcat_i, qcat_r, qcat_n, qcat_l, qroom_0, qroom_c, List.map_cons, List.map_nil, List.sum_cons, List.sum_nil, Nat.reduceAdd, Nat.reduceMul, Nat.reduceLT, Nat.reduceLeDiff, Nat.reduceEqDiff, Nat.reduceSub, decide_true, true_and, and_true, and_self, if_true, if_false, Option.toList_some, Option.toList_none, List.cons_append, List.nil_append, qsL, qlong, List.length_cons, List.length_nil, iN_L, exI, iN_add, iN_mul, iN_le, iN_lt, iN_eq, Nat.le_refl, qfN0, qfN1, uX_16, vX_16, uX_19, vX_19, uX_27, vX_27, uX_30, vX_30, uX_39, vX_39, uX_41, vX_41, uX_43, vX_43, uX_46, vX_46, uX_50, vX_50, uX_53, vX_53, u16, ult, uF, g0, g1, g2, g3, g4, g5, g6, gX_43_1, q1]
    | succ w ih =>
      intro k W y6 y7 y8 hk hW
      have sW := (cW W).sh
      obtain ⟨p, q, w', e, B, S, P⟩ := (XW W).at hi'
      obtain ⟨⟨u16, ult, uF⟩, g0, g1, g2, g3, g4, g5, g6⟩ := S.obj
      rw [← en] at g1
      obtain ⟨x, x1, x2, x3⟩ := (upS_cnt (adj := adjB (cel bs i 1)) (ht := htZ tl (cnr bs i) (dmn bs i)) (n := n) (a := a) k (by omega)).2 (by omega)
      rw [← eU] at x1 x3
      have uS : U (k + 1) = (upW (adjB (cel bs i 1)) (htZ tl (cnr bs i) (dmn bs i)) (U k).1 x, fun c => (U k).2 c || decide (c = x)) := by
        rw [eU, upS, ← eU, x1]
      have lo : ∀ R, qMC (d + 3) 128 [.ref 43, .ref (sa i), .int (iN (mask (fun c => !(U k).2 c) n))] (sL h 45 (wyR h W)) R ↔ R = (some (.int (iN x)), (sL h 45 (wyR h W))) := fun R => by
        rw [en] at x1 ⊢
        exact x_lowest sW (XW W) (tW W) hi' x1
      have nb : qiald (sL h 45 (wyR h W)) e (iN x) = some (iN (mask (adjB (cel bs i 1) x) n)) := by rw [en]; exact S.ne (by rw [← en]; exact x2)
      obtain ⟨z8, rr⟩ := up_round (d := d) (a := a) (b := b) (k := k) (L0 := mask (fun c => !(U (k + 1)).2 c) n) (W := W) (x8 := y8) s X tv hi' (show x < (cnr bs i).length by rw [← en]; exact x2)
      rw [← en] at rr
      have sh : iN 1 <<< (iN x &&& iN 31) = iN (2 ^ x) := iN_shl1 x (by omega)
      have wl : wo (mask (fun c => !(U k).2 c) n) (2 ^ x) = mask (fun c => !(U (k + 1)).2 c) n := by rw [wo_left, uS]
      obtain ⟨h', r', c'⟩ := ih (k + 1) (fun c => if c < n then upW (adjB (cel bs i 1)) (htZ tl (cnr bs i) (dmn bs i)) W x c else W c) (some (.int (iN x))) (some (.int (iN 0))) z8 (by omega) (fun c hc => by
        show (if c < n then upW (adjB (cel bs i 1)) (htZ tl (cnr bs i) (dmn bs i)) W x c else W c) = _
        rw [if_pos hc, uS]
        show _ = upW (adjB (cel bs i 1)) (htZ tl (cnr bs i) (dmn bs i)) (U k).1 x c
        unfold upW
        rw [hW c hc, hW x x2])
      refine ⟨h', fun R => ?_, c'⟩
      have st : qEv (d + 3) 1 qk_127 24 [some (.ref 43), some (.ref (sa i)), some (.int (iN a)), some (.int (iN b)), some (.int (iN (mask (fun c => !(U k).2 c) n))), some (.int (iN k)), y6, y7, y8] [] (sL h 45 (wyR h W)) R ↔ qEv (d + 3) 1 qk_127 62 [some (.ref 43), some (.ref (sa i)), some (.int (iN a)), some (.int (iN b)), some (.int (iN (mask (fun c => !(U (k + 1)).2 c) n))), some (.int (iN k)), some (.int (iN x)), some (.int (iN (mask (adjB (cel bs i 1) x) n))), y8] [] (sL h 45 (wyR h W)) R := by
        rw [e127_24]
        simp (disch := first | assumption | omega) only [e127_0, e127_1, e127_4, e127_5, e127_8, e127_9, e127_12, e127_13, e127_14, e127_15, e127_16, e127_19, e127_21, e127_22, e127_26, e127_27, e127_30, e127_33, e127_34, e127_35, e127_37, e127_40, e127_42, e127_44, e127_45, e127_47, e127_48, e127_49, e127_50, e127_51, e127_53, e127_54, e127_57, e127_59, e127_60, e127_64, e127_67, e127_69, e127_72, e127_74, e127_75, e127_76, e127_78, e127_81, e127_82, e127_83, e127_85, e127_88, e127_91, e127_92, e127_95, e127_97, e127_98, e127_99, e127_100, e127_103, e127_105, e127_106, e127_107, e127_108, e127_110, e127_112, e127_113, e127_114, e127_115, e127_117, e127_120, e127_123, e127_126, e127_127, e127_130, e127_131, e127_132, m127, ↓reduceIte, qg_0, qg_1, qg_2, qg_3, qg_4, qg_5, qg_6, qg_7, qg_8, qg_9, qg_10, qg_11, qg_12, qg_13, not_true_eq_false, not_false_eq_true, Nat.reduceBEq, Bool.false_eq_true, ex1, ex3, ex4, exF, qfit_i, qfit_l, qfit_r, qfit_n, qfit_b0, qfit_b1, qcat_i, qcat_r, qcat_n, qcat_l, qroom_0, qroom_c, List.map_cons, List.map_nil, List.sum_cons, List.sum_nil, Nat.reduceAdd, Nat.reduceMul, Nat.reduceLT, Nat.reduceLeDiff, Nat.reduceEqDiff, Nat.reduceSub, decide_true, true_and, and_true, and_self, if_true, if_false, Option.toList_some, Option.toList_none, List.cons_append, List.nil_append, qsL, qlong, List.length_cons, List.length_nil, iN_L, exI, iN_add, iN_mul, iN_le, iN_lt, iN_eq, Nat.le_refl, qfN0, qfN1, uX_16, vX_16, uX_19, vX_19, uX_27, vX_27, uX_30, vX_30, uX_39, vX_39, uX_41, vX_41, uX_43, vX_43, uX_46, vX_46, uX_50, vX_50, uX_53, vX_53, u16, ult, uF, g0, g1, g2, g3, g4, g5, g6, show ¬ n ≤ k by omega, lo, sh, iN_wo', wl, nb]
        try exact Iff.rfl
      rw [← r' R, st]
      exact rr R
  have l16 := kX_45 s
  have fl : ∀ R, qMC (d + 3) 316 [.ref 45, .long 0] h R ↔ R = (none, sL h 45 (wyR h (fun _ => 0))) := fun R => x_fillL l16
  have q3 : qlast (sL h 45 (wyR h (fun _ => 0))) 45 (iN a) 1 = some (sL h 45 (wyR h (updZ (fun _ => 0) a 1))) := hw_put (W := fun _ => 0) (z := 1) s (by omega)
  have sW := (cW (updZ (fun _ => 0) a 1)).sh
  have s0 := (cW (fun _ => 0)).sh
  have o0 := (XW (fun _ => 0)).at hi'
  obtain ⟨p, q, w, e, B, S, P⟩ := (XW (updZ (fun _ => 0) a 1)).at hi'
  obtain ⟨⟨u16, ult, uF⟩, g0, g1, g2, g3, g4, g5, g6⟩ := S.obj
  have ev : ∀ R, qMC (d + 3) 103 [.ref (sa i)] (sL h 45 (wyR h (updZ (fun _ => 0) a 1))) R ↔ R = (some (.int (iN (mask (fun c => !(U 0).2 c) n))), (sL h 45 (wyR h (updZ (fun _ => 0) a 1)))) := fun R => by
    have := x_every (d := d + 2) (R := R) S P.2.1.2
    rw [← en, mask_all] at this
    rw [eU]
    exact this
  obtain ⟨h', r', c'⟩ := go n 0 (updZ (fun _ => 0) a 1) none none none (by omega) (fun c hc => by rw [eU]; rfl)
  refine ⟨h', fun R => ?_, c'⟩
  rw [← r' R]
  simp (disch := first | assumption | omega) only [e127_0, e127_1, e127_4, e127_5, e127_8, e127_9, e127_12, e127_13, e127_14, e127_15, e127_16, e127_19, e127_21, e127_22, e127_26, e127_27, e127_30, e127_33, e127_34, e127_35, e127_37, e127_40, e127_42, e127_44, e127_45, e127_47, e127_48, e127_49, e127_50, e127_51, e127_53, e127_54, e127_57, e127_59, e127_60, e127_62, e127_64, e127_67, e127_69, e127_72, e127_74, e127_75, e127_76, e127_78, e127_81, e127_82, e127_83, e127_85, e127_88, e127_91, e127_92, e127_95, e127_97, e127_98, e127_99, e127_100, e127_103, e127_105, e127_106, e127_107, e127_108, e127_110, e127_112, e127_113, e127_114, e127_115, e127_117, e127_120, e127_123, e127_126, e127_127, e127_130, e127_131, e127_132, m127, ↓reduceIte, qg_0, qg_1, qg_2, qg_3, qg_4, qg_5, qg_6, qg_7, qg_8, qg_9, qg_10, qg_11, qg_12, qg_13, not_true_eq_false, not_false_eq_true, Nat.reduceBEq, Bool.false_eq_true, ex1, ex3, ex4, exF, qfit_i, qfit_l, qfit_r, qfit_n, qfit_b0, qfit_b1, qcat_i, qcat_r, qcat_n, qcat_l, qroom_0, qroom_c, List.map_cons, List.map_nil, List.sum_cons, List.sum_nil, Nat.reduceAdd, Nat.reduceMul, Nat.reduceLT, Nat.reduceLeDiff, Nat.reduceEqDiff, Nat.reduceSub, decide_true, true_and, and_true, and_self, if_true, if_false, Option.toList_some, Option.toList_none, List.cons_append, List.nil_append, qsL, qlong, List.length_cons, List.length_nil, iN_L, exI, iN_add, iN_mul, iN_le, iN_lt, iN_eq, Nat.le_refl, qfN0, qfN1, uX_16, vX_16, uX_19, vX_19, uX_27, vX_27, uX_30, vX_30, uX_39, vX_39, uX_41, vX_41, uX_43, vX_43, uX_46, vX_46, uX_50, vX_50, uX_53, vX_53, gX_43_1, fl, q3, u16, ult, uF, g0, g1, g2, g3, g4, g5, g6, ev]
set_option maxRecDepth 100000 in
set_option maxHeartbeats 16000000 in
theorem x_ups {x y z : Int32} {v : Int64} (s : ShX h) (X : BsX h bs sa) (tv : TlX h tl) (hv : upsR bs tl x y z v) : ∃ h', (∀ R, qMC (d + 5) 163 [.ref 16, .int x, .int y, .int z] h R ↔ R = (some (.long v), h')) ∧ ChX [45] [] 0 h h' := by
  rcases hv with ⟨hn, rfl⟩ | ⟨i, a, b, ⟨hi', rfl⟩, ⟨ha, rfl⟩, ⟨hb, rfl⟩, rfl⟩
  · refine ⟨h, fun R => ?_, ChX.refl s⟩
    rcases no_two X.1 hn with hb | ⟨i, ⟨hi', rfl⟩, hy⟩
    · have b : ∀ R, qMC (d + 4) 179 [.ref 16, .int x] h R ↔ R = (some .null, h) := fun R => x_bodyAt0 s X hb
      simp (disch := first | assumption | omega) only [e163_0, e163_1, e163_2, e163_5, e163_7, e163_9, e163_9N, e163_12, e163_14, e163_15, e163_18, e163_21, e163_23, e163_24, e163_27, e163_30, e163_33, e163_34, e163_35, e163_38, e163_40, e163_41, e163_42, e163_45, m163, ↓reduceIte, qg_0, qg_1, qg_2, qg_3, qg_4, qg_5, qg_6, qg_7, qg_8, qg_9, qg_10, qg_11, qg_12, qg_13, not_true_eq_false, not_false_eq_true, Nat.reduceBEq, Bool.false_eq_true, ex1, ex3, ex4, exF, qfit_i, qfit_l, qfit_r, qfit_n, qfit_b0, qfit_b1, qcat_i, qcat_r, qcat_n, qcat_l, qroom_0, qroom_c, List.map_cons, List.map_nil, List.sum_cons, List.sum_nil, Nat.reduceAdd, Nat.reduceMul, Nat.reduceLT, Nat.reduceLeDiff, Nat.reduceEqDiff, Nat.reduceSub, decide_true, true_and, and_true, and_self, if_true, if_false, Option.toList_some, Option.toList_none, List.cons_append, List.nil_append, qsL, qlong, List.length_cons, List.length_nil, iN_L, exI, iN_add, iN_mul, iN_le, iN_lt, iN_eq, Nat.le_refl, qfN0, qfN1, uX_16, vX_16, uX_19, vX_19, uX_27, vX_27, uX_30, vX_30, uX_39, vX_39, uX_41, vX_41, uX_43, vX_43, uX_46, vX_46, uX_50, vX_50, uX_53, vX_53, b]
      try exact Iff.rfl
    · have b : ∀ R, qMC (d + 4) 179 [.ref 16, .int (iN i)] h R ↔ R = (some (.ref (sa i)), h) := fun R => x_bodyAt1 s X hi'
      obtain ⟨p, q, w, e, B, S, P⟩ := X.at hi'
      obtain ⟨⟨u16, ult, uF⟩, g0, g1, g2, g3, g4, g5, g6⟩ := S.obj
      rcases hy with hy | ⟨hy, hz⟩
      · have hc : ∀ R, qMC (d + 4) 102 [.ref (sa i), .int y] h R ↔ _ := fun R => (x_hasCorner S P.2.1.2).2 hy
        simp (disch := first | assumption | omega) only [e163_0, e163_1, e163_2, e163_5, e163_7, e163_9, e163_9N, e163_12, e163_14, e163_15, e163_18, e163_21, e163_23, e163_24, e163_27, e163_30, e163_33, e163_34, e163_35, e163_38, e163_40, e163_41, e163_42, e163_45, m163, ↓reduceIte, qg_0, qg_1, qg_2, qg_3, qg_4, qg_5, qg_6, qg_7, qg_8, qg_9, qg_10, qg_11, qg_12, qg_13, not_true_eq_false, not_false_eq_true, Nat.reduceBEq, Bool.false_eq_true, ex1, ex3, ex4, exF, qfit_i, qfit_l, qfit_r, qfit_n, qfit_b0, qfit_b1, qcat_i, qcat_r, qcat_n, qcat_l, qroom_0, qroom_c, List.map_cons, List.map_nil, List.sum_cons, List.sum_nil, Nat.reduceAdd, Nat.reduceMul, Nat.reduceLT, Nat.reduceLeDiff, Nat.reduceEqDiff, Nat.reduceSub, decide_true, true_and, and_true, and_self, if_true, if_false, Option.toList_some, Option.toList_none, List.cons_append, List.nil_append, qsL, qlong, List.length_cons, List.length_nil, iN_L, exI, iN_add, iN_mul, iN_le, iN_lt, iN_eq, Nat.le_refl, qfN0, qfN1, uX_16, vX_16, uX_19, vX_19, uX_27, vX_27, uX_30, vX_30, uX_39, vX_39, uX_41, vX_41, uX_43, vX_43, uX_46, vX_46, uX_50, vX_50, uX_53, vX_53, b, u16, ult, uF, g0, g1, g2, g3, g4, g5, g6, hc]
        try exact Iff.rfl
      · have hc : ∀ R, qMC (d + 4) 102 [.ref (sa i), .int y] h R ↔ _ := fun R => (x_hasCorner S P.2.1.2).1 hy
        have hc2 : ∀ R, qMC (d + 4) 102 [.ref (sa i), .int z] h R ↔ _ := fun R => (x_hasCorner S P.2.1.2).2 hz
        simp (disch := first | assumption | omega) only [e163_0, e163_1, e163_2, e163_5, e163_7, e163_9, e163_9N, e163_12, e163_14, e163_15, e163_18, e163_21, e163_23, e163_24, e163_27, e163_30, e163_33, e163_34, e163_35, e163_38, e163_40, e163_41, e163_42, e163_45, m163, ↓reduceIte, qg_0, qg_1, qg_2, qg_3, qg_4, qg_5, qg_6, qg_7, qg_8, qg_9, qg_10, qg_11, qg_12, qg_13, not_true_eq_false, not_false_eq_true, Nat.reduceBEq, Bool.false_eq_true, ex1, ex3, ex4, exF, qfit_i, qfit_l, qfit_r, qfit_n, qfit_b0, qfit_b1, qcat_i, qcat_r, qcat_n, qcat_l, qroom_0, qroom_c, List.map_cons, List.map_nil, List.sum_cons, List.sum_nil, Nat.reduceAdd, Nat.reduceMul, Nat.reduceLT, Nat.reduceLeDiff, Nat.reduceEqDiff, Nat.reduceSub, decide_true, true_and, and_true, and_self, if_true, if_false, Option.toList_some, Option.toList_none, List.cons_append, List.nil_append, qsL, qlong, List.length_cons, List.length_nil, iN_L, exI, iN_add, iN_mul, iN_le, iN_lt, iN_eq, Nat.le_refl, qfN0, qfN1, uX_16, vX_16, uX_19, vX_19, uX_27, vX_27, uX_30, vX_30, uX_39, vX_39, uX_41, vX_41, uX_43, vX_43, uX_46, vX_46, uX_50, vX_50, uX_53, vX_53, b, u16, ult, uF, g0, g1, g2, g3, g4, g5, g6, hc, hc2, iN10]
        try exact Iff.rfl
  · have b' : ∀ R, qMC (d + 4) 179 [.ref 16, .int (iN i)] h R ↔ R = (some (.ref (sa i)), h) := fun R => x_bodyAt1 s X hi'
    obtain ⟨p, q, w, e, B, S, P⟩ := X.at hi'
    obtain ⟨⟨u16, ult, uF⟩, g0, g1, g2, g3, g4, g5, g6⟩ := S.obj
    have hc : ∀ R, qMC (d + 4) 102 [.ref (sa i), .int (iN a)] h R ↔ _ := fun R => (x_hasCorner S P.2.1.2).1 ⟨a, ha, rfl⟩
    have hc2 : ∀ R, qMC (d + 4) 102 [.ref (sa i), .int (iN b)] h R ↔ _ := fun R => (x_hasCorner S P.2.1.2).1 ⟨b, hb, rfl⟩
    obtain ⟨h', r', c'⟩ := x_countUp (d := d) s X tv hi' ha hb
    refine ⟨h', fun R => ?_, c'⟩
    simp (disch := first | assumption | omega) only [e163_0, e163_1, e163_2, e163_5, e163_7, e163_9, e163_9N, e163_12, e163_14, e163_15, e163_18, e163_21, e163_23, e163_24, e163_27, e163_30, e163_33, e163_34, e163_35, e163_38, e163_40, e163_41, e163_42, e163_45, m163, ↓reduceIte, qg_0, qg_1, qg_2, qg_3, qg_4, qg_5, qg_6, qg_7, qg_8, qg_9, qg_10, qg_11, qg_12, qg_13, not_true_eq_false, not_false_eq_true, Nat.reduceBEq, Bool.false_eq_true, ex1, ex3, ex4, exF, qfit_i, qfit_l, qfit_r, qfit_n, qfit_b0, qfit_b1, qcat_i, qcat_r, qcat_n, qcat_l, qroom_0, qroom_c, List.map_cons, List.map_nil, List.sum_cons, List.sum_nil, Nat.reduceAdd, Nat.reduceMul, Nat.reduceLT, Nat.reduceLeDiff, Nat.reduceEqDiff, Nat.reduceSub, decide_true, true_and, and_true, and_self, if_true, if_false, Option.toList_some, Option.toList_none, List.cons_append, List.nil_append, qsL, qlong, List.length_cons, List.length_nil, iN_L, exI, iN_add, iN_mul, iN_le, iN_lt, iN_eq, Nat.le_refl, qfN0, qfN1, uX_16, vX_16, uX_19, vX_19, uX_27, vX_27, uX_30, vX_30, uX_39, vX_39, uX_41, vX_41, uX_43, vX_43, uX_46, vX_46, uX_50, vX_50, uX_53, vX_53, b', u16, ult, uF, g0, g1, g2, g3, g4, g5, g6, hc, hc2, iN10, gX_16_9, r']
end XUPS3

/-! ===== THE CLASS: fromCorners, same, inside, turnsOf ===== -/
section XSAME
variable {d n lim : Nat} {h : qH} {A : List Nat} {bs : List bdy} {sa : Nat → Nat}
def cosL (n : Nat) (F : List Nat) : List Nat := (List.range n).map fun c => mask (fun e => (F.getD e 0).testBit c) F.length
theorem cos_len {F : List Nat} : (cosL n F).length = n := by unfold cosL; rw [List.length_map, List.length_range]
theorem cos_at {F : List Nat} {c : Nat} (hc : c < n) : (cosL n F).getD c 0 = mask (fun e => (F.getD e 0).testBit c) F.length := by
  unfold cosL
  rw [List.getD_eq_getElem?_getD, List.getElem?_map, List.getElem?_range hc]
  rfl
set_option maxRecDepth 100000 in
set_option maxHeartbeats 32000000 in
theorem x_fromCorners {a D : Nat} {sc : Int32} {cs : List pt4} {C : Nat → List Nat} {p q w e : Nat} {B : Nat → Nat} (s : ShX h) (S : SoD h a D sc cs C p q w e B) (P : SoP D cs C) (h16 : (C (D - 1)).length ≤ 16) : ∃ h', (∀ R, qMC (d + 3) 51 [.ref 30, .ref a] h R ↔ R = (none, h')) ∧ ChX [31] [(30, 1), (30, 2)] 0 h h' ∧ MaX h' (C (D - 1)).length (cosL cs.length (C (D - 1))) := by
  have hD := P.1
  have n16 := P.2.1.2
  have K4 : D - 1 < 4 := by omega
  obtain ⟨F, eF⟩ : ∃ F, F = C (D - 1) := ⟨_, rfl⟩
  obtain ⟨fr, efr⟩ : ∃ fr, fr = B (D - 1) := ⟨_, rfl⟩
  have F16 : ∀ k, k < F.length → F.getD k 0 < 65536 := fun k hk => by rw [eF] at hk ⊢; exact ((P.2.2.2.2.1 _ K4).2 k hk).2
  have Sg : ∀ g, ChX [31] [(30, 1), (30, 2)] 0 h g → SoD g a D sc cs C p q w e B := fun g c => S.kp (kpS.of c (by decide)) P
  have fs : ∀ R, qMC (d + 2) 107 [.ref a] h R ↔ R = (some (.ref fr), h) := fun R => by rw [efr]; exact x_facetSets S hD
  have ln : qalen h fr = some (iN F.length) := by rw [efr, eF]; exact S.cl K4
  rw [← eF] at h16
  obtain ⟨h1, e1⟩ : ∃ h1, h1 = xV h 30 2 (.int (iN F.length)) := ⟨_, rfl⟩
  have c1 : ChX [31] [(30, 1), (30, 2)] 0 h h1 := by rw [e1]; exact ChX.setI s (by decide) (by decide)
  have s1 := c1.sh
  have p1 : qput h 30 4 2 (.int (iN F.length)) = some h1 := by rw [e1]; exact pX_30_2 s
  have mn : ∀ R, qMC (d + 2) 314 [.int (iN F.length), .int (iN 16)] h R ↔ R = (some (.int (iN F.length)), h) := fun R => by
    rw [x_min (d := d + 1) (by omega) (by decide), if_neg (show ¬ 16 < F.length by omega)]
  have g1 := (Sg h1 c1).obj.2.2.1
  obtain ⟨h2, e2⟩ : ∃ h2, h2 = xV h1 30 1 (.int (iN cs.length)) := ⟨_, rfl⟩
  have c2 : ChX [31] [(30, 1), (30, 2)] 0 h h2 := c1.trans0 (by rw [e2]; exact ChX.setI s1 (by decide) (by decide))
  have p2 : qput h1 30 4 1 (.int (iN cs.length)) = some h2 := by rw [e2]; exact pX_30_1 s1
  have x1 : xi h2 30 1 = iN cs.length := by rw [e2, xi_xV, if_pos ⟨rfl, rfl⟩]
  have x2 : xi h2 30 2 = iN F.length := by rw [e2, xi_xV, if_neg (by decide), e1, xi_xV, if_pos ⟨rfl, rfl⟩]
  have all : ∀ (w' c : Nat) (g : qH) (x4 : Option Value), c + w' = cs.length → ChX [31] [(30, 1), (30, 2)] 0 h g → xi g 30 1 = iN cs.length → xi g 30 2 = iN F.length → (∀ t, t < c → hi g 31 t = iN ((cosL cs.length F).getD t 0)) → ∃ h', (∀ R, qEv (d + 2) 4 qk_51 26 [some (.ref 30), some (.ref a), some (.ref fr), some (.int (iN c)), x4] [] g R ↔ R = (none, h')) ∧ ChX [31] [(30, 1), (30, 2)] 0 h h' ∧ xi h' 30 1 = iN cs.length ∧ xi h' 30 2 = iN F.length ∧ ∀ t, t < cs.length → hi h' 31 t = iN ((cosL cs.length F).getD t 0) := by
    intro w'
    induction w' with
    | zero =>
      intro c g x4 hc cg y1 y2 vg
      have ec : c = cs.length := by omega
      subst ec
      have sg := cg.sh
      refine ⟨g, fun R => ?_, cg, y1, y2, vg⟩
      rw [e51_26]
      simp (disch := first | assumption | omega) only [e51_0, e51_1, e51_4, e51_5, e51_6, e51_7, e51_8, e51_10, e51_13, e51_16, e51_17, e51_18, e51_21, e51_24, e51_25, e51_27, e51_28, e51_31, e51_34, e51_35, e51_38, e51_39, e51_40, e51_41, e51_42, e51_46, e51_47, e51_50, e51_53, e51_54, e51_57, e51_58, e51_59, e51_60, e51_61, e51_63, e51_64, e51_65, e51_66, e51_67, e51_68, e51_70, e51_71, e51_72, e51_73, e51_76, e51_79, e51_82, e51_85, m51, ↓reduceIte, qg_0, qg_1, qg_2, qg_3, qg_4, qg_5, qg_6, qg_7, qg_8, qg_9, qg_10, qg_11, qg_12, qg_13, not_true_eq_false, not_false_eq_true, Nat.reduceBEq, Bool.false_eq_true, ex1, ex3, ex4, exF, qfit_i, qfit_l, qfit_r, qfit_n, qfit_b0, qfit_b1, qcat_i, qcat_r, qcat_n, qcat_l, qroom_0, qroom_c, List.map_cons, List.map_nil, List.sum_cons, List.sum_nil, Nat.reduceAdd, Nat.reduceMul, Nat.reduceLT, Nat.reduceLeDiff, Nat.reduceEqDiff, Nat.reduceSub, decide_true, true_and, and_true, and_self, if_true, if_false, Option.toList_some, Option.toList_none, List.cons_append, List.nil_append, qsL, qlong, List.length_cons, List.length_nil, iN_L, exI, iN_add, iN_mul, iN_le, iN_lt, iN_eq, Nat.le_refl, qfN0, qfN1, uX_16, vX_16, uX_19, vX_19, uX_27, vX_27, uX_30, vX_30, uX_39, vX_39, uX_41, vX_41, uX_43, vX_43, uX_46, vX_46, uX_50, vX_50, uX_53, vX_53, gX_30_1, y1]
    | succ w' ih =>
      intro c g x4 hc cg y1 y2 vg
      have hcn : c < cs.length := by omega
      have sg := cg.sh
      have k31 := kX_31 sg
      have cz : ∀ Z, ChX [31] [(30, 1), (30, 2)] 0 h (sI g 31 Z) := fun Z => cg.trans0 (ChX.rowI sg k31 (by decide) (by decide))
      have y1' : ∀ Z, xi (sI g 31 Z) 30 1 = iN cs.length := fun Z => by unfold xi; rw [hf_sI k31]; exact y1
      have y2' : ∀ Z, xi (sI g 31 Z) 30 2 = iN F.length := fun Z => by unfold xi; rw [hf_sI k31]; exact y2
      obtain ⟨f, ef⟩ : ∃ f : Nat → Bool, f = fun e => (F.getD e 0).testBit c := ⟨_, rfl⟩
      obtain ⟨h', r', z'⟩ := ih (c + 1) (sI g 31 (upd (hi g 31) c (iN (mask f F.length)))) (some (.int (iN F.length))) (by omega) (cz _) (y1' _) (y2' _) (fun t ht => by
        rw [hi_sI, if_pos rfl, upd_at]
        by_cases e : t = c
        · rw [if_pos e, e, cos_at hcn, ef]
        · rw [if_neg e]; exact vg t (by omega))
      refine ⟨h', fun R => ?_, z'⟩
      rw [← r' R]
      have w0 : qiast g 31 (iN c) (iN 0) = some (sI g 31 (upd (hi g 31) c (iN (mask f 0)))) := wX_31 sg (by omega)
      have r0 : qEv (d + 2) 4 qk_51 26 [some (.ref 30), some (.ref a), some (.ref fr), some (.int (iN c)), x4] [] g R ↔ qEv (d + 2) 4 qk_51 44 [some (.ref 30), some (.ref a), some (.ref fr), some (.int (iN c)), some (.int (iN 0))] [] (sI g 31 (upd (hi g 31) c (iN (mask f 0)))) R := by
        rw [e51_26]
        simp (disch := first | assumption | omega) only [e51_0, e51_1, e51_4, e51_5, e51_6, e51_7, e51_8, e51_10, e51_13, e51_16, e51_17, e51_18, e51_21, e51_24, e51_25, e51_27, e51_28, e51_31, e51_34, e51_35, e51_38, e51_39, e51_40, e51_41, e51_42, e51_46, e51_47, e51_50, e51_53, e51_54, e51_57, e51_58, e51_59, e51_60, e51_61, e51_63, e51_64, e51_65, e51_66, e51_67, e51_68, e51_70, e51_71, e51_72, e51_73, e51_76, e51_79, e51_82, e51_85, m51, ↓reduceIte, qg_0, qg_1, qg_2, qg_3, qg_4, qg_5, qg_6, qg_7, qg_8, qg_9, qg_10, qg_11, qg_12, qg_13, not_true_eq_false, not_false_eq_true, Nat.reduceBEq, Bool.false_eq_true, ex1, ex3, ex4, exF, qfit_i, qfit_l, qfit_r, qfit_n, qfit_b0, qfit_b1, qcat_i, qcat_r, qcat_n, qcat_l, qroom_0, qroom_c, List.map_cons, List.map_nil, List.sum_cons, List.sum_nil, Nat.reduceAdd, Nat.reduceMul, Nat.reduceLT, Nat.reduceLeDiff, Nat.reduceEqDiff, Nat.reduceSub, decide_true, true_and, and_true, and_self, if_true, if_false, Option.toList_some, Option.toList_none, List.cons_append, List.nil_append, qsL, qlong, List.length_cons, List.length_nil, iN_L, exI, iN_add, iN_mul, iN_le, iN_lt, iN_eq, Nat.le_refl, qfN0, qfN1, uX_16, vX_16, uX_19, vX_19, uX_27, vX_27, uX_30, vX_30, uX_39, vX_39, uX_41, vX_41, uX_43, vX_43, uX_46, vX_46, uX_50, vX_50, uX_53, vX_53, gX_30_1, y1, show ¬ cs.length ≤ c by omega, gX_30_0, w0]
      rw [r0]
      refine Iff.trans (loop_up (n := F.length) (L := fun k => [some (.ref 30), some (.ref a), some (.ref fr), some (.int (iN c)), some (.int (iN k))]) (H := fun k => sI g 31 (upd (hi g 31) c (iN (mask f k)))) ?_) ?_
      · intro k hk
        try dsimp only
        have yk := y2' (upd (hi g 31) c (iN (mask f k)))
        have sk := (cz (upd (hi g 31) c (iN (mask f k)))).sh
        have Sk := Sg _ (cz (upd (hi g 31) c (iN (mask f k))))
        obtain ⟨gk, eg⟩ : ∃ gk, gk = sI g 31 (upd (hi g 31) c (iN (mask f k))) := ⟨_, rfl⟩
        have rk : qiald gk fr (iN k) = some (iN (F.getD k 0)) := by rw [eg, efr, eF]; exact Sk.ck K4 (by rw [← eF]; exact hk)
        have fb := F16 k hk
        have rd : qiald gk 31 (iN c) = some (iN (mask f k)) := by rw [eg, rX_31 sk (by omega), hi_sI, if_pos rfl, upd_at, if_pos rfl]
        have wk : qiast gk 31 (iN c) (iN (mask f k ||| (if f k = true then 2 ^ k else 0))) = some (sI g 31 (upd (hi g 31) c (iN (mask f (k + 1))))) := by
          rw [eg, wX_31 sk (by omega), hi_sI, if_pos rfl, sI_sI, upd_upd]
          rfl
        have bt : iN (F.getD k 0) >>> (iN c &&& iN 31) &&& iN 1 = iN (if f k = true then 1 else 0) := by rw [ef]; exact iN_bit (by omega) (by omega)
        rw [← eg] at sk yk ⊢
        rw [e51_44]
        simp (disch := first | assumption | omega) only [e51_0, e51_1, e51_4, e51_5, e51_6, e51_7, e51_8, e51_10, e51_13, e51_16, e51_17, e51_18, e51_21, e51_24, e51_25, e51_27, e51_28, e51_31, e51_34, e51_35, e51_38, e51_39, e51_40, e51_41, e51_42, e51_46, e51_47, e51_50, e51_53, e51_54, e51_57, e51_58, e51_59, e51_60, e51_61, e51_63, e51_64, e51_65, e51_66, e51_67, e51_68, e51_70, e51_71, e51_72, e51_73, e51_76, e51_79, e51_82, e51_85, m51, ↓reduceIte, qg_0, qg_1, qg_2, qg_3, qg_4, qg_5, qg_6, qg_7, qg_8, qg_9, qg_10, qg_11, qg_12, qg_13, not_true_eq_false, not_false_eq_true, Nat.reduceBEq, Bool.false_eq_true, ex1, ex3, ex4, exF, qfit_i, qfit_l, qfit_r, qfit_n, qfit_b0, qfit_b1, qcat_i, qcat_r, qcat_n, qcat_l, qroom_0, qroom_c, List.map_cons, List.map_nil, List.sum_cons, List.sum_nil, Nat.reduceAdd, Nat.reduceMul, Nat.reduceLT, Nat.reduceLeDiff, Nat.reduceEqDiff, Nat.reduceSub, decide_true, true_and, and_true, and_self, if_true, if_false, Option.toList_some, Option.toList_none, List.cons_append, List.nil_append, qsL, qlong, List.length_cons, List.length_nil, iN_L, exI, iN_add, iN_mul, iN_le, iN_lt, iN_eq, Nat.le_refl, qfN0, qfN1, uX_16, vX_16, uX_19, vX_19, uX_27, vX_27, uX_30, vX_30, uX_39, vX_39, uX_41, vX_41, uX_43, vX_43, uX_46, vX_46, uX_50, vX_50, uX_53, vX_53, gX_30_2, yk, show ¬ F.length ≤ k by omega, gX_30_0, rd, rk, bt, shl_bit, iN_or, wk]
      · try dsimp only
        have yk := y2' (upd (hi g 31) c (iN (mask f F.length)))
        have sk := (cz (upd (hi g 31) c (iN (mask f F.length)))).sh
        rw [e51_44]
        simp (disch := first | assumption | omega) only [e51_0, e51_1, e51_4, e51_5, e51_6, e51_7, e51_8, e51_10, e51_13, e51_16, e51_17, e51_18, e51_21, e51_24, e51_25, e51_27, e51_28, e51_31, e51_34, e51_35, e51_38, e51_39, e51_40, e51_41, e51_42, e51_46, e51_47, e51_50, e51_53, e51_54, e51_57, e51_58, e51_59, e51_60, e51_61, e51_63, e51_64, e51_65, e51_66, e51_67, e51_68, e51_70, e51_71, e51_72, e51_73, e51_76, e51_79, e51_82, e51_85, m51, ↓reduceIte, qg_0, qg_1, qg_2, qg_3, qg_4, qg_5, qg_6, qg_7, qg_8, qg_9, qg_10, qg_11, qg_12, qg_13, not_true_eq_false, not_false_eq_true, Nat.reduceBEq, Bool.false_eq_true, ex1, ex3, ex4, exF, qfit_i, qfit_l, qfit_r, qfit_n, qfit_b0, qfit_b1, qcat_i, qcat_r, qcat_n, qcat_l, qroom_0, qroom_c, List.map_cons, List.map_nil, List.sum_cons, List.sum_nil, Nat.reduceAdd, Nat.reduceMul, Nat.reduceLT, Nat.reduceLeDiff, Nat.reduceEqDiff, Nat.reduceSub, decide_true, true_and, and_true, and_self, if_true, if_false, Option.toList_some, Option.toList_none, List.cons_append, List.nil_append, qsL, qlong, List.length_cons, List.length_nil, iN_L, exI, iN_add, iN_mul, iN_le, iN_lt, iN_eq, Nat.le_refl, qfN0, qfN1, uX_16, vX_16, uX_19, vX_19, uX_27, vX_27, uX_30, vX_30, uX_39, vX_39, uX_41, vX_41, uX_43, vX_43, uX_46, vX_46, uX_50, vX_50, uX_53, vX_53, gX_30_2, yk]
  obtain ⟨h', r', c', y1, y2, v'⟩ := all cs.length 0 h2 none (by omega) c2 x1 x2 (fun t ht => absurd ht (Nat.not_lt_zero t))
  refine ⟨h', fun R => ?_, c', ⟨by rw [← eF]; exact h16, by rw [cos_len]; omega⟩, by rw [← eF]; exact y2, by rw [cos_len]; exact y1, fun t ht => ?_⟩
  · rw [← r' R]
    obtain ⟨⟨u16, ult, uF⟩, -⟩ := S.obj
    obtain ⟨⟨v16, vlt, vF⟩, -⟩ := (Sg h1 c1).obj
    simp (disch := first | assumption | omega) only [e51_0, e51_1, e51_4, e51_5, e51_6, e51_7, e51_8, e51_10, e51_13, e51_16, e51_17, e51_18, e51_21, e51_24, e51_25, e51_27, e51_28, e51_31, e51_34, e51_35, e51_38, e51_39, e51_40, e51_41, e51_42, e51_46, e51_47, e51_50, e51_53, e51_54, e51_57, e51_58, e51_59, e51_60, e51_61, e51_63, e51_64, e51_65, e51_66, e51_67, e51_68, e51_70, e51_71, e51_72, e51_73, e51_76, e51_79, e51_82, e51_85, m51, ↓reduceIte, qg_0, qg_1, qg_2, qg_3, qg_4, qg_5, qg_6, qg_7, qg_8, qg_9, qg_10, qg_11, qg_12, qg_13, not_true_eq_false, not_false_eq_true, Nat.reduceBEq, Bool.false_eq_true, ex1, ex3, ex4, exF, qfit_i, qfit_l, qfit_r, qfit_n, qfit_b0, qfit_b1, qcat_i, qcat_r, qcat_n, qcat_l, qroom_0, qroom_c, List.map_cons, List.map_nil, List.sum_cons, List.sum_nil, Nat.reduceAdd, Nat.reduceMul, Nat.reduceLT, Nat.reduceLeDiff, Nat.reduceEqDiff, Nat.reduceSub, decide_true, true_and, and_true, and_self, if_true, if_false, Option.toList_some, Option.toList_none, List.cons_append, List.nil_append, qsL, qlong, List.length_cons, List.length_nil, iN_L, exI, iN_add, iN_mul, iN_le, iN_lt, iN_eq, Nat.le_refl, qfN0, qfN1, uX_16, vX_16, uX_19, vX_19, uX_27, vX_27, uX_30, vX_30, uX_39, vX_39, uX_41, vX_41, uX_43, vX_43, uX_46, vX_46, uX_50, vX_50, uX_53, vX_53, u16, ult, uF, v16, vlt, vF, fs, ln, mn, p1, g1, p2]
  · rw [cos_len] at ht
    rw [← eF]
    exact ⟨v' t ht, by rw [cos_at ht]; exact mask_lt _ _⟩
theorem fct_srt {j : Nat} : ∀ a b, a < b → b < (fct bs j).length → (fct bs j).getD a 0 < (fct bs j).getD b 0 := srt_list (cls_srt _)
set_option maxRecDepth 100000 in
theorem x_onto {j : Nat} {p q w e : Nat} {B : Nat → Nat} (s : ShX h) (S : SoD h (sa j) (dmn bs j) (scl bs j) (cnr bs j) (cel bs j) p q w e B) (P : SoP (dmn bs j) (cnr bs j) (cel bs j)) (v : MaX h n A) (h0 : ∀ x, x ∈ A → 0 < x) (nd : A.Nodup) (hl : 0 < lim ∧ lim ≤ 1000000) : ∃ h', (∀ R, qMC (d + 24) 52 [.ref 30, .int (iN ((cnr bs j).length)), .ref (B (dmn bs j - 1)), .int (iN lim)] h R ↔ R = (some (.int (iN (if (cnr bs j).length = n ∧ (fct bs j).length = A.length then capN lim (rnT n A (fct bs j)) else 0))), h')) ∧ ChX [32, 33, 34, 35, 36, 37, 38] [(30, 5), (30, 6)] 0 h h' := by
  have K4 : dmn bs j - 1 < 4 := by have := P.1; omega
  obtain ⟨b1, b2, b3, b4⟩ := S.2.2.2.1.2.2 _ K4
  exact x_countOn s v h0 nd b3 b2 P.fl (fun k hk => ⟨b4 k hk, ((P.2.2.2.2.1 _ K4).2 k hk).2⟩) fct_srt P.2.1.2 hl
set_option maxRecDepth 100000 in
theorem x_fromB {i : Nat} {p q w e : Nat} {B : Nat → Nat} (s : ShX h) (X : BsX h bs sa) (hi' : i < bs.length) (S : SoD h (sa i) (dmn bs i) (scl bs i) (cnr bs i) (cel bs i) p q w e B) (P : SoP (dmn bs i) (cnr bs i) (cel bs i)) : ∃ h', (∀ R, qMC (d + 2) 50 [.ref 30, .int (iN ((cnr bs i).length)), .ref (B (dmn bs i - 1)), .int (iN ((fct bs i).length))] h R ↔ R = (none, h')) ∧ ChX [31] [(30, 1), (30, 2)] 0 h h' ∧ MaX h' (cnr bs i).length (fct bs i) := by
  have K4 : dmn bs i - 1 < 4 := by have := P.1; omega
  obtain ⟨⟨ok, so⟩, -⟩ := X.2.2.2 i hi'
  obtain ⟨b1, b2, b3, b4⟩ := S.2.2.2.1.2.2 _ K4
  have l104 : (fct bs i).length ≤ 104 := cls_104 ok so
  exact x_fromSets s b3 (by omega) P.2.1.2 ⟨Nat.le_refl _, l104⟩ (by have : (cel bs i (dmn bs i - 1)).length ≤ 104 := l104; omega) (fun t ht => ⟨b4 t ht, P.2.2.2.2.2.2.2 _ K4 t ht⟩)
theorem fct_pos {i : Nat} (P : SoP (dmn bs i) (cnr bs i) (cel bs i)) : ∀ x, x ∈ fct bs i → 0 < x := fun x hx => by
  obtain ⟨t, ht, et⟩ := mem_getD0 hx
  rw [← et]; exact ((P.2.2.2.2.1 (dmn bs i - 1) (by have := P.1; omega)).2 t ht).1
theorem cap_fit {c : Prop} [Decidable c] {m : Nat} {A B : List Nat} : iN (if c then capN 1 (rnT m A B) else 0) = if c then fitI m A B else 0 := by
  by_cases z : c
  · rw [if_pos z, if_pos z, ← fit1]; rfl
  · rw [if_neg z, if_neg z]; rfl
set_option maxRecDepth 100000 in
set_option maxHeartbeats 32000000 in
theorem x_same {x y : Int32} (s : ShX h) (X : BsX h bs sa) : ∃ h', (∀ R, qMC (d + 25) 150 [.ref 16, .int x, .int y] h R ↔ R = (some (.int (twoR bs (samI bs) x y)), h')) ∧ ChX [31, 32, 33, 34, 35, 36, 37, 38] [(30, 1), (30, 2), (30, 5), (30, 6)] 0 h h' := by
  have b24 := X.1
  by_cases hx : isB bs x
  · by_cases hy : isB bs y
    · obtain ⟨i, hi', rfl⟩ := hx
      obtain ⟨j, hj', rfl⟩ := hy
      rw [twoR_at X.1 hi' hj']
      have bx : ∀ R, qMC (d + 24) 179 [.ref 16, .int (iN i)] h R ↔ R = (some (.ref (sa i)), h) := fun R => x_bodyAt1 s X hi'
      have by' : ∀ R, qMC (d + 24) 179 [.ref 16, .int (iN j)] h R ↔ R = (some (.ref (sa j)), h) := fun R => x_bodyAt1 s X hj'
      obtain ⟨p, q, w, e, B, S, P⟩ := X.at hi'
      obtain ⟨p', q', w', e', B', S', P'⟩ := X.at hj'
      obtain ⟨⟨u16, ult, uF⟩, g0, g1, g2, g3, g4, g5, g6⟩ := S.obj
      obtain ⟨⟨u16', ult', uF'⟩, g0', g1', g2', g3', g4', g5', g6'⟩ := S'.obj
      have D1 := P.1
      have D2 := P'.1
      by_cases z : dmn bs i = dmn bs j
      · have fi : ∀ R, qMC (d + 24) 107 [.ref (sa i)] h R ↔ R = (some (.ref (B (dmn bs i - 1))), h) := fun R => x_facetSets S P.1
        have ci : ∀ R, qMC (d + 24) 108 [.ref (sa i)] h R ↔ R = (some (.int (iN (fct bs i).length)), h) := fun R => x_facetCount S P.1
        obtain ⟨h1, r1, c1, v1⟩ := x_fromB (d := d + 22) s X hi' S P
        have s1 := c1.sh
        have S1 := S'.kp (kpS.of c1 (by decide)) P'
        have fj : ∀ R, qMC (d + 24) 107 [.ref (sa j)] h1 R ↔ R = (some (.ref (B' (dmn bs j - 1))), h1) := fun R => x_facetSets S1 P'.1
        obtain ⟨h2, r2, c2⟩ := x_onto (d := d) s1 S1 P' v1 (fct_pos P) fct_nodup (lim := 1) ⟨by decide, by decide⟩
        obtain ⟨⟨v16, vlt, vF⟩, -, n1', -⟩ := S1.obj
        refine ⟨h2, fun R => ?_, (c1.mono (by decide) (by decide) (Nat.le_refl _)).trans0 (c2.mono (by decide) (by decide) (Nat.le_refl _))⟩
        have ev : samI bs i j = iN (if (cnr bs j).length = (cnr bs i).length ∧ (fct bs j).length = (fct bs i).length then capN 1 (rnT (cnr bs i).length (fct bs i) (fct bs j)) else 0) := by
          rw [cap_fit]
          unfold samI
          by_cases y : (cnr bs j).length = (cnr bs i).length ∧ (fct bs j).length = (fct bs i).length
          · rw [if_pos y, if_pos ⟨z, y.1.symm, y.2.symm⟩]
          · rw [if_neg y, if_neg fun y' => y ⟨y'.2.1.symm, y'.2.2.symm⟩]
        rw [ev]
        simp (disch := first | assumption | omega) only [e150_0, e150_1, e150_2, e150_5, e150_6, e150_7, e150_8, e150_11, e150_13, e150_14, e150_14N, e150_17, e150_19, e150_19N, e150_22, e150_25, e150_26, e150_27, e150_30, e150_32, e150_35, e150_38, e150_39, e150_40, e150_41, e150_44, e150_45, e150_48, e150_49, e150_52, e150_53, e150_56, e150_59, e150_60, e150_63, e150_65, e150_68, e150_70, e150_73, e150_74, e150_77, m150, ↓reduceIte, qg_0, qg_1, qg_2, qg_3, qg_4, qg_5, qg_6, qg_7, qg_8, qg_9, qg_10, qg_11, qg_12, qg_13, not_true_eq_false, not_false_eq_true, Nat.reduceBEq, Bool.false_eq_true, ex1, ex3, ex4, exF, qfit_i, qfit_l, qfit_r, qfit_n, qfit_b0, qfit_b1, qcat_i, qcat_r, qcat_n, qcat_l, qroom_0, qroom_c, List.map_cons, List.map_nil, List.sum_cons, List.sum_nil, Nat.reduceAdd, Nat.reduceMul, Nat.reduceLT, Nat.reduceLeDiff, Nat.reduceEqDiff, Nat.reduceSub, decide_true, true_and, and_true, and_self, if_true, if_false, Option.toList_some, Option.toList_none, List.cons_append, List.nil_append, qsL, qlong, List.length_cons, List.length_nil, iN_L, exI, iN_add, iN_mul, iN_le, iN_lt, iN_eq, Nat.le_refl, qfN0, qfN1, uX_16, vX_16, uX_19, vX_19, uX_27, vX_27, uX_30, vX_30, uX_39, vX_39, uX_41, vX_41, uX_43, vX_43, uX_46, vX_46, uX_50, vX_50, uX_53, vX_53, bx, by', u16, ult, uF, v16, vlt, vF, g0, g0', eq_true z, gX_16_6, g1, fi, ci, r1, gX_16_6 s1, n1', fj, r2]
      · refine ⟨h, fun R => ?_, ChX.refl s⟩
        unfold samI
        rw [if_neg fun y => z y.1]
        simp (disch := first | assumption | omega) only [e150_0, e150_1, e150_2, e150_5, e150_6, e150_7, e150_8, e150_11, e150_13, e150_14, e150_14N, e150_17, e150_19, e150_19N, e150_22, e150_25, e150_26, e150_27, e150_30, e150_32, e150_35, e150_38, e150_39, e150_40, e150_41, e150_44, e150_45, e150_48, e150_49, e150_52, e150_53, e150_56, e150_59, e150_60, e150_63, e150_65, e150_68, e150_70, e150_73, e150_74, e150_77, m150, ↓reduceIte, qg_0, qg_1, qg_2, qg_3, qg_4, qg_5, qg_6, qg_7, qg_8, qg_9, qg_10, qg_11, qg_12, qg_13, not_true_eq_false, not_false_eq_true, Nat.reduceBEq, Bool.false_eq_true, ex1, ex3, ex4, exF, qfit_i, qfit_l, qfit_r, qfit_n, qfit_b0, qfit_b1, qcat_i, qcat_r, qcat_n, qcat_l, qroom_0, qroom_c, List.map_cons, List.map_nil, List.sum_cons, List.sum_nil, Nat.reduceAdd, Nat.reduceMul, Nat.reduceLT, Nat.reduceLeDiff, Nat.reduceEqDiff, Nat.reduceSub, decide_true, true_and, and_true, and_self, if_true, if_false, Option.toList_some, Option.toList_none, List.cons_append, List.nil_append, qsL, qlong, List.length_cons, List.length_nil, iN_L, exI, iN_add, iN_mul, iN_le, iN_lt, iN_eq, Nat.le_refl, qfN0, qfN1, uX_16, vX_16, uX_19, vX_19, uX_27, vX_27, uX_30, vX_30, uX_39, vX_39, uX_41, vX_41, uX_43, vX_43, uX_46, vX_46, uX_50, vX_50, uX_53, vX_53, bx, by', g0, g0', z]
    · refine ⟨h, fun R => ?_, ChX.refl s⟩
      rw [twoR_no fun z => hy z.2]
      obtain ⟨i, hi', rfl⟩ := hx
      have bx : ∀ R, qMC (d + 24) 179 [.ref 16, .int (iN i)] h R ↔ R = (some (.ref (sa i)), h) := fun R => x_bodyAt1 s X hi'
      have by' : ∀ R, qMC (d + 24) 179 [.ref 16, .int y] h R ↔ R = (some .null, h) := fun R => x_bodyAt0 s X hy
      simp (disch := first | assumption | omega) only [e150_0, e150_1, e150_2, e150_5, e150_6, e150_7, e150_8, e150_11, e150_13, e150_14, e150_14N, e150_17, e150_19, e150_19N, e150_22, e150_25, e150_26, e150_27, e150_30, e150_32, e150_35, e150_38, e150_39, e150_40, e150_41, e150_44, e150_45, e150_48, e150_49, e150_52, e150_53, e150_56, e150_59, e150_60, e150_63, e150_65, e150_68, e150_70, e150_73, e150_74, e150_77, m150, ↓reduceIte, qg_0, qg_1, qg_2, qg_3, qg_4, qg_5, qg_6, qg_7, qg_8, qg_9, qg_10, qg_11, qg_12, qg_13, not_true_eq_false, not_false_eq_true, Nat.reduceBEq, Bool.false_eq_true, ex1, ex3, ex4, exF, qfit_i, qfit_l, qfit_r, qfit_n, qfit_b0, qfit_b1, qcat_i, qcat_r, qcat_n, qcat_l, qroom_0, qroom_c, List.map_cons, List.map_nil, List.sum_cons, List.sum_nil, Nat.reduceAdd, Nat.reduceMul, Nat.reduceLT, Nat.reduceLeDiff, Nat.reduceEqDiff, Nat.reduceSub, decide_true, true_and, and_true, and_self, if_true, if_false, Option.toList_some, Option.toList_none, List.cons_append, List.nil_append, qsL, qlong, List.length_cons, List.length_nil, iN_L, exI, iN_add, iN_mul, iN_le, iN_lt, iN_eq, Nat.le_refl, qfN0, qfN1, uX_16, vX_16, uX_19, vX_19, uX_27, vX_27, uX_30, vX_30, uX_39, vX_39, uX_41, vX_41, uX_43, vX_43, uX_46, vX_46, uX_50, vX_50, uX_53, vX_53, bx, by']
  · refine ⟨h, fun R => ?_, ChX.refl s⟩
    rw [twoR_no fun z => hx z.1]
    have bx : ∀ R, qMC (d + 24) 179 [.ref 16, .int x] h R ↔ R = (some .null, h) := fun R => x_bodyAt0 s X hx
    by_cases hy : isB bs y
    · obtain ⟨j, hj', rfl⟩ := hy
      have by' : ∀ R, qMC (d + 24) 179 [.ref 16, .int (iN j)] h R ↔ R = (some (.ref (sa j)), h) := fun R => x_bodyAt1 s X hj'
      simp (disch := first | assumption | omega) only [e150_0, e150_1, e150_2, e150_5, e150_6, e150_7, e150_8, e150_11, e150_13, e150_14, e150_14N, e150_17, e150_19, e150_19N, e150_22, e150_25, e150_26, e150_27, e150_30, e150_32, e150_35, e150_38, e150_39, e150_40, e150_41, e150_44, e150_45, e150_48, e150_49, e150_52, e150_53, e150_56, e150_59, e150_60, e150_63, e150_65, e150_68, e150_70, e150_73, e150_74, e150_77, m150, ↓reduceIte, qg_0, qg_1, qg_2, qg_3, qg_4, qg_5, qg_6, qg_7, qg_8, qg_9, qg_10, qg_11, qg_12, qg_13, not_true_eq_false, not_false_eq_true, Nat.reduceBEq, Bool.false_eq_true, ex1, ex3, ex4, exF, qfit_i, qfit_l, qfit_r, qfit_n, qfit_b0, qfit_b1, qcat_i, qcat_r, qcat_n, qcat_l, qroom_0, qroom_c, List.map_cons, List.map_nil, List.sum_cons, List.sum_nil, Nat.reduceAdd, Nat.reduceMul, Nat.reduceLT, Nat.reduceLeDiff, Nat.reduceEqDiff, Nat.reduceSub, decide_true, true_and, and_true, and_self, if_true, if_false, Option.toList_some, Option.toList_none, List.cons_append, List.nil_append, qsL, qlong, List.length_cons, List.length_nil, iN_L, exI, iN_add, iN_mul, iN_le, iN_lt, iN_eq, Nat.le_refl, qfN0, qfN1, uX_16, vX_16, uX_19, vX_19, uX_27, vX_27, uX_30, vX_30, uX_39, vX_39, uX_41, vX_41, uX_43, vX_43, uX_46, vX_46, uX_50, vX_50, uX_53, vX_53, bx, by']
    · have by' : ∀ R, qMC (d + 24) 179 [.ref 16, .int y] h R ↔ R = (some .null, h) := fun R => x_bodyAt0 s X hy
      simp (disch := first | assumption | omega) only [e150_0, e150_1, e150_2, e150_5, e150_6, e150_7, e150_8, e150_11, e150_13, e150_14, e150_14N, e150_17, e150_19, e150_19N, e150_22, e150_25, e150_26, e150_27, e150_30, e150_32, e150_35, e150_38, e150_39, e150_40, e150_41, e150_44, e150_45, e150_48, e150_49, e150_52, e150_53, e150_56, e150_59, e150_60, e150_63, e150_65, e150_68, e150_70, e150_73, e150_74, e150_77, m150, ↓reduceIte, qg_0, qg_1, qg_2, qg_3, qg_4, qg_5, qg_6, qg_7, qg_8, qg_9, qg_10, qg_11, qg_12, qg_13, not_true_eq_false, not_false_eq_true, Nat.reduceBEq, Bool.false_eq_true, ex1, ex3, ex4, exF, qfit_i, qfit_l, qfit_r, qfit_n, qfit_b0, qfit_b1, qcat_i, qcat_r, qcat_n, qcat_l, qroom_0, qroom_c, List.map_cons, List.map_nil, List.sum_cons, List.sum_nil, Nat.reduceAdd, Nat.reduceMul, Nat.reduceLT, Nat.reduceLeDiff, Nat.reduceEqDiff, Nat.reduceSub, decide_true, true_and, and_true, and_self, if_true, if_false, Option.toList_some, Option.toList_none, List.cons_append, List.nil_append, qsL, qlong, List.length_cons, List.length_nil, iN_L, exI, iN_add, iN_mul, iN_le, iN_lt, iN_eq, Nat.le_refl, qfN0, qfN1, uX_16, vX_16, uX_19, vX_19, uX_27, vX_27, uX_30, vX_30, uX_39, vX_39, uX_41, vX_41, uX_43, vX_43, uX_46, vX_46, uX_50, vX_50, uX_53, vX_53, bx, by']
end XSAME

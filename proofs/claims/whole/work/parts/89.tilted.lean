/-! ===== THE REFERENCE: tilted ===== -/
section TILTED
variable {d : Nat} {h : qH} {bs : List bdy} {R : qRes}
def tlS (A : Nat → Int) (cs : List pt4) (c D : Nat) : Int := sumZ (fun k => A k * lP cs c k) D
def a4 (x0 x1 x2 x3 : Int32) : Nat → Int
  | 0 => x0.toInt
  | 1 => x1.toInt
  | 2 => x2.toInt
  | _ => x3.toInt
theorem i32_long (x : Int32) : x.toInt64 = lZ x.toInt := (Int64.ofInt_int32ToInt x).symm
set_option maxRecDepth 100000 in
set_option maxHeartbeats 16000000 in
theorem s_tilted {i c : Nat} {x0 x1 x2 x3 : Int32} (s : ShM h) (B : BsM h bs) (hi' : i < bs.length) (hc : c < (cnr bs i).length) : qMC (d + 2) 220 [.ref 55, .int (iN i), .int (iN c), .int x0, .int x1, .int x2, .int x3] h R ↔ R = (some (.long (lZ (tlS (a4 x0 x1 x2 x3) (cnr bs i) c (dmn bs i)))), h) := by
  have b24 := B.1
  obtain ⟨di, di2, di4⟩ := B.dim hi'
  have cv := B.corn hi'
  have cl := cv.2.1
  have xl : ∀ k, k < 4 → (iZ (lP (cnr bs i) c k)).toInt64 = lZ (lP (cnr bs i) c k) := fun k hk => iZ_long (by have := (cv.2.2 c hc k hk).2; unfold iB; omega)
  have y0 := cv.at hc (show 0 < 4 by omega)
  have y1 := cv.at hc (show 1 < 4 by omega)
  have y2 := cv.at hc (show 2 < 4 by omega)
  have y3 := cv.at hc (show 3 < 4 by omega)
  have h3 : dmn bs i = 2 ∨ dmn bs i = 3 ∨ dmn bs i = 4 := by omega
  rcases h3 with e | e | e
  · rw [e] at di ⊢
    simp (disch := first | assumption | omega) only [e220_0, e220_1, e220_2, e220_3, e220_4, e220_5, e220_6, e220_9, e220_10, e220_11, e220_13, e220_14, e220_15, e220_16, e220_17, e220_18, e220_21, e220_22, e220_23, e220_24, e220_26, e220_28, e220_29, e220_32, e220_33, e220_34, e220_35, e220_38, e220_40, e220_41, e220_42, e220_43, e220_44, e220_45, e220_48, e220_49, e220_50, e220_53, e220_54, e220_55, e220_57, e220_59, e220_60, e220_63, e220_64, e220_65, e220_66, e220_69, e220_71, e220_72, e220_73, e220_74, e220_75, e220_76, e220_79, e220_80, e220_81, e220_84, e220_85, e220_86, m220, ↓reduceIte, qg_0, qg_1, qg_2, qg_3, qg_4, qg_5, qg_6, qg_7, qg_8, qg_9, qg_10, qg_11, qg_12, qg_13, not_true_eq_false, not_false_eq_true, Nat.reduceBEq, Bool.false_eq_true, ex1, ex3, ex4, exF, qfit_i, qfit_l, qfit_r, qfit_n, qfit_b0, qfit_b1, qcat_i, qcat_r, qcat_n, qcat_l, qroom_0, qroom_c, List.map_cons, List.map_nil, List.sum_cons, List.sum_nil, Nat.reduceAdd, Nat.reduceMul, Nat.reduceLT, Nat.reduceLeDiff, Nat.reduceEqDiff, Nat.reduceSub, decide_true, true_and, and_true, and_self, if_true, if_false, Option.toList_some, Option.toList_none, List.cons_append, List.nil_append, qsL, qlong, List.length_cons, List.length_nil, iN_L, vM1, vM2, s_x s, y0, y1, xl 0 (by decide), xl 1 (by decide), i32_long, lZ_mul, lZ_add, gM_1, rM_56, di, iN_le, show (0 : Int64) = lZ 0 from rfl, Nat.le_refl]
    rw [show x0.toInt * lP (cnr bs i) c 0 + x1.toInt * lP (cnr bs i) c 1 + 0 + 0 = tlS (a4 x0 x1 x2 x3) (cnr bs i) c 2 by show _ = 0 + x0.toInt * lP (cnr bs i) c 0 + x1.toInt * lP (cnr bs i) c 1; omega]
  · rw [e] at di ⊢
    simp (disch := first | assumption | omega) only [e220_0, e220_1, e220_2, e220_3, e220_4, e220_5, e220_6, e220_9, e220_10, e220_11, e220_13, e220_14, e220_15, e220_16, e220_17, e220_18, e220_21, e220_22, e220_23, e220_24, e220_26, e220_28, e220_29, e220_32, e220_33, e220_34, e220_35, e220_38, e220_40, e220_41, e220_42, e220_43, e220_44, e220_45, e220_48, e220_49, e220_50, e220_53, e220_54, e220_55, e220_57, e220_59, e220_60, e220_63, e220_64, e220_65, e220_66, e220_69, e220_71, e220_72, e220_73, e220_74, e220_75, e220_76, e220_79, e220_80, e220_81, e220_84, e220_85, e220_86, m220, ↓reduceIte, qg_0, qg_1, qg_2, qg_3, qg_4, qg_5, qg_6, qg_7, qg_8, qg_9, qg_10, qg_11, qg_12, qg_13, not_true_eq_false, not_false_eq_true, Nat.reduceBEq, Bool.false_eq_true, ex1, ex3, ex4, exF, qfit_i, qfit_l, qfit_r, qfit_n, qfit_b0, qfit_b1, qcat_i, qcat_r, qcat_n, qcat_l, qroom_0, qroom_c, List.map_cons, List.map_nil, List.sum_cons, List.sum_nil, Nat.reduceAdd, Nat.reduceMul, Nat.reduceLT, Nat.reduceLeDiff, Nat.reduceEqDiff, Nat.reduceSub, decide_true, true_and, and_true, and_self, if_true, if_false, Option.toList_some, Option.toList_none, List.cons_append, List.nil_append, qsL, qlong, List.length_cons, List.length_nil, iN_L, vM1, vM2, s_x s, y0, y1, y2, xl 0 (by decide), xl 1 (by decide), xl 2 (by decide), i32_long, lZ_mul, lZ_add, gM_1, rM_56, di, iN_le, show (0 : Int64) = lZ 0 from rfl, Nat.le_refl]
    rw [show x0.toInt * lP (cnr bs i) c 0 + x1.toInt * lP (cnr bs i) c 1 + x2.toInt * lP (cnr bs i) c 2 + 0 = tlS (a4 x0 x1 x2 x3) (cnr bs i) c 3 by show _ = 0 + x0.toInt * lP (cnr bs i) c 0 + x1.toInt * lP (cnr bs i) c 1 + x2.toInt * lP (cnr bs i) c 2; omega]
  · rw [e] at di ⊢
    simp (disch := first | assumption | omega) only [e220_0, e220_1, e220_2, e220_3, e220_4, e220_5, e220_6, e220_9, e220_10, e220_11, e220_13, e220_14, e220_15, e220_16, e220_17, e220_18, e220_21, e220_22, e220_23, e220_24, e220_26, e220_28, e220_29, e220_32, e220_33, e220_34, e220_35, e220_38, e220_40, e220_41, e220_42, e220_43, e220_44, e220_45, e220_48, e220_49, e220_50, e220_53, e220_54, e220_55, e220_57, e220_59, e220_60, e220_63, e220_64, e220_65, e220_66, e220_69, e220_71, e220_72, e220_73, e220_74, e220_75, e220_76, e220_79, e220_80, e220_81, e220_84, e220_85, e220_86, m220, ↓reduceIte, qg_0, qg_1, qg_2, qg_3, qg_4, qg_5, qg_6, qg_7, qg_8, qg_9, qg_10, qg_11, qg_12, qg_13, not_true_eq_false, not_false_eq_true, Nat.reduceBEq, Bool.false_eq_true, ex1, ex3, ex4, exF, qfit_i, qfit_l, qfit_r, qfit_n, qfit_b0, qfit_b1, qcat_i, qcat_r, qcat_n, qcat_l, qroom_0, qroom_c, List.map_cons, List.map_nil, List.sum_cons, List.sum_nil, Nat.reduceAdd, Nat.reduceMul, Nat.reduceLT, Nat.reduceLeDiff, Nat.reduceEqDiff, Nat.reduceSub, decide_true, true_and, and_true, and_self, if_true, if_false, Option.toList_some, Option.toList_none, List.cons_append, List.nil_append, qsL, qlong, List.length_cons, List.length_nil, iN_L, vM1, vM2, s_x s, y0, y1, y2, y3, xl 0 (by decide), xl 1 (by decide), xl 2 (by decide), xl 3 (by decide), i32_long, lZ_mul, lZ_add, gM_1, rM_56, di, iN_le]
    rw [show x0.toInt * lP (cnr bs i) c 0 + x1.toInt * lP (cnr bs i) c 1 + x2.toInt * lP (cnr bs i) c 2 + x3.toInt * lP (cnr bs i) c 3 = tlS (a4 x0 x1 x2 x3) (cnr bs i) c 4 by show _ = 0 + x0.toInt * lP (cnr bs i) c 0 + x1.toInt * lP (cnr bs i) c 1 + x2.toInt * lP (cnr bs i) c 2 + x3.toInt * lP (cnr bs i) c 3; omega]
end TILTED

/-! ===== THE REFERENCE: putBetween, tilted ===== -/
section BETWEEN
variable {d : Nat} {h : qH} {bs : List bdy} {R : qRes}
/-- the place between two corners where the level is 0, over the difference of their levels -/
def btw (P Q : pt4) (a b : Int) : frac := ((if 0 < b - a then P.1 * b - Q.1 * a else Q.1 * a - P.1 * b, if 0 < b - a then P.2.1 * b - Q.2.1 * a else Q.2.1 * a - P.2.1 * b, if 0 < b - a then P.2.2.1 * b - Q.2.2.1 * a else Q.2.2.1 * a - P.2.2.1 * b, if 0 < b - a then P.2.2.2 * b - Q.2.2.2 * a else Q.2.2.2 * a - P.2.2.2 * b), (b - a).natAbs)
theorem btw_co (P Q : pt4) (a b : Int) : ∀ k, k < 4 → co (btw P Q a b).1 k = if 0 < b - a then co P k * b - co Q k * a else co Q k * a - co P k * b
  | 0, _ => rfl
  | 1, _ => rfl
  | 2, _ => rfl
  | 3, _ => rfl
  | k + 4, h => by omega
set_option maxRecDepth 100000 in
set_option maxHeartbeats 16000000 in
theorem s_putBetween {i p q : Nat} {a b : Int} {ps : List frac} (s : ShM h) (B : BsM h bs) (hi' : i < bs.length) (hp : p < (cnr bs i).length) (hq : q < (cnr bs i).length) (ha : -50000 ≤ a ∧ a ≤ 50000) (hb : -50000 ≤ b ∧ b ≤ 50000) (hab : a ≠ b) (v : FrV h ps) (hl' : ps.length < 255) : ∃ h', (∀ R, qMC (d + 2) 218 [.ref 55, .int (iN i), .int (iN p), .int (iN q), .long (lZ a), .long (lZ b)] h R ↔ R = (none, h')) ∧ Ch [71, 72] [22] h h' ∧ FrV h' (ps ++ [btw ((cnr bs i).getD p z4) ((cnr bs i).getD q z4) a b]) := by
  have b24 := B.1
  have cv := B.corn hi'
  have cl := cv.2.1
  have k71 := kM_71 s
  have sh : ∀ G, ShM (sL h 71 G) := fun G => s.rowL k71
  have hbp : ∀ k, k < 4 → -999 ≤ lP (cnr bs i) p k ∧ lP (cnr bs i) p k ≤ 999 := fun k hk => (cv.2.2 p hp k hk).2
  have hbq : ∀ k, k < 4 → -999 ≤ lP (cnr bs i) q k ∧ lP (cnr bs i) q k ≤ 999 := fun k hk => (cv.2.2 q hq k hk).2
  obtain ⟨w, ew⟩ : ∃ w, w = btw ((cnr bs i).getD p z4) ((cnr bs i).getD q z4) a b := ⟨_, rfl⟩
  have wco : ∀ k, k < 4 → co w.1 k = if 0 < b - a then lP (cnr bs i) p k * b - lP (cnr bs i) q k * a else lP (cnr bs i) q k * a - lP (cnr bs i) p k * b := fun k hk => by rw [ew, btw_co _ _ _ _ k hk]; rfl
  have w2 : w.2 = (b - a).natAbs := by rw [ew]; rfl
  have wb : ∀ k, k < 4 → -1000000000 ≤ co w.1 k ∧ co w.1 k ≤ 1000000000 := by
    intro k hk
    have m1 := mul_b (A := 999) (B := 50000) (hbp k hk) hb
    have m2 := mul_b (A := 999) (B := 50000) (hbq k hk) ha
    rw [wco k hk]
    split <;> omega
  rw [← ew]
  refine ⟨prtH h ps.length (co w.1) w.2, fun R => ?_, prtH_ch s, prtH_v (q := w) s v hl' wb (by rw [w2]; omega)⟩
  have lab : lB (b - a) := by unfold lB; omega
  simp (disch := first | assumption | omega) only [e218_0, e218_2, e218_4, e218_5, e218_7, e218_8, e218_12, e218_13, e218_16, e218_17, e218_20, e218_21, e218_22, e218_25, e218_26, e218_28, e218_29, e218_31, e218_32, e218_33, e218_36, e218_37, e218_38, e218_39, e218_41, e218_44, e218_45, e218_47, e218_48, e218_49, e218_50, e218_51, e218_53, e218_56, e218_57, e218_59, e218_60, e218_61, e218_64, e218_65, e218_66, e218_67, e218_69, e218_72, e218_73, e218_75, e218_76, e218_77, e218_78, e218_79, e218_81, e218_84, e218_85, e218_87, e218_88, e218_89, e218_90, e218_93, e218_96, e218_97, e218_100, e218_101, e218_104, e218_106, e218_109, e218_110, e218_111, e218_112, e218_115, e218_116, e218_117, e218_120, m218, ↓reduceIte, qg_0, qg_1, qg_2, qg_3, qg_4, qg_5, qg_6, qg_7, qg_8, qg_9, qg_10, qg_11, qg_12, qg_13, not_true_eq_false, not_false_eq_true, Nat.reduceBEq, Bool.false_eq_true, ex1, ex3, ex4, exF, qfit_i, qfit_l, qfit_r, qfit_n, qfit_b0, qfit_b1, qcat_i, qcat_r, qcat_n, qcat_l, qroom_0, qroom_c, List.map_cons, List.map_nil, List.sum_cons, List.sum_nil, Nat.reduceAdd, Nat.reduceMul, Nat.reduceLT, Nat.reduceLeDiff, Nat.reduceEqDiff, Nat.reduceSub, decide_true, true_and, and_true, and_self, if_true, if_false, Option.toList_some, Option.toList_none, List.cons_append, List.nil_append, qsL, qlong, List.length_cons, List.length_nil, iN_L, lZ_sub]
  have H0 : h = sL h 71 (fun x => if 4 * ps.length ≤ x ∧ x < 4 * ps.length + 0 then lZ (co w.1 (x - 4 * ps.length)) else hl h 71 x) := by
    have : (fun x => if 4 * ps.length ≤ x ∧ x < 4 * ps.length + 0 then lZ (co w.1 (x - 4 * ps.length)) else hl h 71 x) = hl h 71 := by funext x; rw [if_neg (by omega)]
    rw [this, sL_id k71]
  rw [show qEv (d + 1) 4 qk_218 10 [some (.ref 55), some (.int (iN i)), some (.int (iN p)), some (.int (iN q)), some (.long (lZ a)), none, some (.long (lZ b)), none, some (.long (lZ (b - a))), none, some (.int (iN 0))] [] h R ↔ qEv (d + 1) 4 qk_218 10 [some (.ref 55), some (.int (iN i)), some (.int (iN p)), some (.int (iN q)), some (.long (lZ a)), none, some (.long (lZ b)), none, some (.long (lZ (b - a))), none, some (.int (iN 0))] [] (sL h 71 (fun x => if 4 * ps.length ≤ x ∧ x < 4 * ps.length + 0 then lZ (co w.1 (x - 4 * ps.length)) else hl h 71 x)) R by rw [← H0]]
  refine Iff.trans (loop_up (n := 4) (L := fun k => [some (.ref 55), some (.int (iN i)), some (.int (iN p)), some (.int (iN q)), some (.long (lZ a)), none, some (.long (lZ b)), none, some (.long (lZ (b - a))), none, some (.int (iN k))]) (H := fun k => sL h 71 (fun x => if 4 * ps.length ≤ x ∧ x < 4 * ps.length + k then lZ (co w.1 (x - 4 * ps.length)) else hl h 71 x)) ?_) ?_
  · intro k hk
    try dsimp only
    rw [e218_10]
    obtain ⟨G, eG⟩ : ∃ G, G = fun x => if 4 * ps.length ≤ x ∧ x < 4 * ps.length + k then lZ (co w.1 (x - 4 * ps.length)) else hl h 71 x := ⟨_, rfl⟩
    rw [← eG]
    have sG := sh G
    have xp : hi (sL h 71 G) 59 (64 * i + 4 * p + k) = iZ (lP (cnr bs i) p k) := by rw [hi_sL k71]; exact cv.at hp hk
    have xq : hi (sL h 71 G) 59 (64 * i + 4 * q + k) = iZ (lP (cnr bs i) q k) := by rw [hi_sL k71]; exact cv.at hq hk
    have xpl : (iZ (lP (cnr bs i) p k)).toInt64 = lZ (lP (cnr bs i) p k) := iZ_long (by have := hbp k hk; unfold iB; omega)
    have xql : (iZ (lP (cnr bs i) q k)).toInt64 = lZ (lP (cnr bs i) q k) := iZ_long (by have := hbq k hk; unfold iB; omega)
    have eq1 : vp_updL G (4 * ps.length + k) (lZ (co w.1 k)) = fun x => if 4 * ps.length ≤ x ∧ x < 4 * ps.length + (k + 1) then lZ (co w.1 (x - 4 * ps.length)) else hl h 71 x := by
      funext x
      rw [updL_at, eG]
      show (if x = 4 * ps.length + k then _ else if 4 * ps.length ≤ x ∧ x < 4 * ps.length + k then _ else _) = _
      by_cases g1 : x = 4 * ps.length + k
      · subst g1; rw [if_pos rfl, if_pos (by omega), show 4 * ps.length + k - 4 * ps.length = k by omega]
      · rw [if_neg g1]
        by_cases g2 : 4 * ps.length ≤ x ∧ x < 4 * ps.length + k
        · rw [if_pos g2, if_pos (by omega)]
        · rw [if_neg g2, if_neg (by omega)]
    have m22 : mi (sL h 71 G) 22 = iN ps.length := by rw [mi_sL k71]; exact v.2.1
    have wk := wco k hk
    by_cases hc : 0 < b - a
    · have hle : ¬ lZ (b - a) ≤ lZ 0 := by rw [lZ_le lab lB_0]; omega
      rw [if_pos hc] at wk
      rw [wk] at eq1
      simp (disch := first | assumption | omega) only [e218_0, e218_2, e218_4, e218_5, e218_7, e218_8, e218_12, e218_13, e218_16, e218_17, e218_20, e218_21, e218_22, e218_25, e218_26, e218_28, e218_29, e218_31, e218_32, e218_33, e218_36, e218_37, e218_38, e218_39, e218_41, e218_44, e218_45, e218_47, e218_48, e218_49, e218_50, e218_51, e218_53, e218_56, e218_57, e218_59, e218_60, e218_61, e218_64, e218_65, e218_66, e218_67, e218_69, e218_72, e218_73, e218_75, e218_76, e218_77, e218_78, e218_79, e218_81, e218_84, e218_85, e218_87, e218_88, e218_89, e218_90, e218_93, e218_96, e218_97, e218_100, e218_101, e218_104, e218_106, e218_109, e218_110, e218_111, e218_112, e218_115, e218_116, e218_117, e218_120, m218, ↓reduceIte, qg_0, qg_1, qg_2, qg_3, qg_4, qg_5, qg_6, qg_7, qg_8, qg_9, qg_10, qg_11, qg_12, qg_13, not_true_eq_false, not_false_eq_true, Nat.reduceBEq, Bool.false_eq_true, ex1, ex3, ex4, exF, qfit_i, qfit_l, qfit_r, qfit_n, qfit_b0, qfit_b1, qcat_i, qcat_r, qcat_n, qcat_l, qroom_0, qroom_c, List.map_cons, List.map_nil, List.sum_cons, List.sum_nil, Nat.reduceAdd, Nat.reduceMul, Nat.reduceLT, Nat.reduceLeDiff, Nat.reduceEqDiff, Nat.reduceSub, decide_true, true_and, and_true, and_self, if_true, if_false, Option.toList_some, Option.toList_none, List.cons_append, List.nil_append, qsL, qlong, List.length_cons, List.length_nil, iN_L, iN_le, show ¬ 4 ≤ k by omega, gM_20, gM_22, m22, iN_mul, iN_add, lgN_le, show (0 : Int64) = lZ 0 from rfl, hle, vM1, vM2, s_x sG, xp, xq, xpl, xql, lZ_mul, lZ_sub, wM_71, hl_sL, sL_sL, eq1, exI]
    · have hle : lZ (b - a) ≤ lZ 0 := by rw [lZ_le lab lB_0]; omega
      rw [if_neg hc] at wk
      rw [wk] at eq1
      simp (disch := first | assumption | omega) only [e218_0, e218_2, e218_4, e218_5, e218_7, e218_8, e218_12, e218_13, e218_16, e218_17, e218_20, e218_21, e218_22, e218_25, e218_26, e218_28, e218_29, e218_31, e218_32, e218_33, e218_36, e218_37, e218_38, e218_39, e218_41, e218_44, e218_45, e218_47, e218_48, e218_49, e218_50, e218_51, e218_53, e218_56, e218_57, e218_59, e218_60, e218_61, e218_64, e218_65, e218_66, e218_67, e218_69, e218_72, e218_73, e218_75, e218_76, e218_77, e218_78, e218_79, e218_81, e218_84, e218_85, e218_87, e218_88, e218_89, e218_90, e218_93, e218_96, e218_97, e218_100, e218_101, e218_104, e218_106, e218_109, e218_110, e218_111, e218_112, e218_115, e218_116, e218_117, e218_120, m218, ↓reduceIte, qg_0, qg_1, qg_2, qg_3, qg_4, qg_5, qg_6, qg_7, qg_8, qg_9, qg_10, qg_11, qg_12, qg_13, not_true_eq_false, not_false_eq_true, Nat.reduceBEq, Bool.false_eq_true, ex1, ex3, ex4, exF, qfit_i, qfit_l, qfit_r, qfit_n, qfit_b0, qfit_b1, qcat_i, qcat_r, qcat_n, qcat_l, qroom_0, qroom_c, List.map_cons, List.map_nil, List.sum_cons, List.sum_nil, Nat.reduceAdd, Nat.reduceMul, Nat.reduceLT, Nat.reduceLeDiff, Nat.reduceEqDiff, Nat.reduceSub, decide_true, true_and, and_true, and_self, if_true, if_false, Option.toList_some, Option.toList_none, List.cons_append, List.nil_append, qsL, qlong, List.length_cons, List.length_nil, iN_L, iN_le, show ¬ 4 ≤ k by omega, gM_20, gM_22, m22, iN_mul, iN_add, lgN_le, show (0 : Int64) = lZ 0 from rfl, hle, vM1, vM2, s_x sG, xp, xq, xpl, xql, lZ_mul, lZ_sub, wM_71, hl_sL, sL_sL, eq1, exI]
  · try dsimp only
    rw [e218_10]
    obtain ⟨h2, eh2⟩ : ∃ h2, h2 = sL h 71 (fun x => if 4 * ps.length ≤ x ∧ x < 4 * ps.length + 4 then lZ (co w.1 (x - 4 * ps.length)) else hl h 71 x) := ⟨_, rfl⟩
    have s2 : ShM h2 := by rw [eh2]; exact sh _
    have k72 := kM_72 s2
    have m22 : mi h2 22 = iN ps.length := by rw [eh2, mi_sL k71]; exact v.2.1
    have s3 : ∀ G, ShM (sL h2 72 G) := fun G => s2.rowL k72
    have e72 : hl h2 72 = hl h 72 := by rw [eh2, hl_sL, if_neg (by decide)]
    rw [← eh2]
    have fin : prtH h ps.length (co w.1) w.2 = mI (sL h2 72 (vp_updL (hl h2 72) ps.length (lZ (b - a).natAbs))) 22 (iN (ps.length + 1)) := by rw [e72, eh2, ← w2]; rfl
    have l255 := v.1
    simp (disch := first | assumption | omega | exact s3 _) only [e218_0, e218_2, e218_4, e218_5, e218_7, e218_8, e218_12, e218_13, e218_16, e218_17, e218_20, e218_21, e218_22, e218_25, e218_26, e218_28, e218_29, e218_31, e218_32, e218_33, e218_36, e218_37, e218_38, e218_39, e218_41, e218_44, e218_45, e218_47, e218_48, e218_49, e218_50, e218_51, e218_53, e218_56, e218_57, e218_59, e218_60, e218_61, e218_64, e218_65, e218_66, e218_67, e218_69, e218_72, e218_73, e218_75, e218_76, e218_77, e218_78, e218_79, e218_81, e218_84, e218_85, e218_87, e218_88, e218_89, e218_90, e218_93, e218_96, e218_97, e218_100, e218_101, e218_104, e218_106, e218_109, e218_110, e218_111, e218_112, e218_115, e218_116, e218_117, e218_120, m218, ↓reduceIte, qg_0, qg_1, qg_2, qg_3, qg_4, qg_5, qg_6, qg_7, qg_8, qg_9, qg_10, qg_11, qg_12, qg_13, not_true_eq_false, not_false_eq_true, Nat.reduceBEq, Bool.false_eq_true, ex1, ex3, ex4, exF, qfit_i, qfit_l, qfit_r, qfit_n, qfit_b0, qfit_b1, qcat_i, qcat_r, qcat_n, qcat_l, qroom_0, qroom_c, List.map_cons, List.map_nil, List.sum_cons, List.sum_nil, Nat.reduceAdd, Nat.reduceMul, Nat.reduceLT, Nat.reduceLeDiff, Nat.reduceEqDiff, Nat.reduceSub, decide_true, true_and, and_true, and_self, if_true, if_false, Option.toList_some, Option.toList_none, List.cons_append, List.nil_append, qsL, qlong, List.length_cons, List.length_nil, iN_L, iN_le, Nat.le_refl, gM_21, gM_22, m22, s_sized (d := d) lab, wM_72, mi_sL k72, iN_add, pM_22, fin]
end BETWEEN

/-! ===== THE REFERENCE: putPart ===== -/
section PUTPART
variable {d : Nat} {h : qH} {bs : List bdy}
set_option maxRecDepth 100000 in
set_option maxHeartbeats 16000000 in
theorem s_putPart {i c : Nat} {ps : List frac} (s : ShM h) (B : BsM h bs) (hi' : i < bs.length) (hc : c < (cnr bs i).length) (v : FrV h ps) (hl' : ps.length < 255) : ∃ h', (∀ R, qMC (d + 2) 217 [.ref 55, .int (iN i), .int (iN c)] h R ↔ R = (none, h')) ∧ Ch [71, 72] [22] h h' ∧ FrV h' (ps ++ [((cnr bs i).getD c z4, 1)]) := by
  have b24 := B.1
  have cv := B.corn hi'
  have cl := cv.2.1
  have k71 := kM_71 s
  have sh : ∀ G, ShM (sL h 71 G) := fun G => s.rowL k71
  have BG : ∀ G, BsM (sL h 71 G) bs := fun G => B.ch (Ch.rowL (A := [71]) (J := []) s k71 (by decide)) (by decide) (by decide)
  have hb : ∀ k, k < 4 → -999 ≤ co ((cnr bs i).getD c z4) k ∧ co ((cnr bs i).getD c z4) k ≤ 999 := fun k hk => (cv.2.2 c hc k hk).2
  refine ⟨prtH h ps.length (co ((cnr bs i).getD c z4)) 1, fun R => ?_, prtH_ch s, prtH_v (q := ((cnr bs i).getD c z4, 1)) s v hl' (fun k hk => by have := hb k hk; show -1000000000 ≤ co ((cnr bs i).getD c z4) k ∧ co ((cnr bs i).getD c z4) k ≤ 1000000000; omega) ⟨Int.le_refl 1, by show (1 : Int) ≤ 100000; decide⟩⟩
  simp (disch := first | assumption | omega) only [e217_0, e217_1, e217_3, e217_4, e217_7, e217_8, e217_11, e217_12, e217_13, e217_16, e217_17, e217_18, e217_19, e217_20, e217_21, e217_22, e217_23, e217_26, e217_27, e217_28, e217_31, e217_34, e217_35, e217_38, e217_39, e217_42, e217_43, e217_44, e217_45, e217_46, e217_49, e217_50, e217_51, e217_54, m217, ↓reduceIte, qg_0, qg_1, qg_2, qg_3, qg_4, qg_5, qg_6, qg_7, qg_8, qg_9, qg_10, qg_11, qg_12, qg_13, not_true_eq_false, not_false_eq_true, Nat.reduceBEq, Bool.false_eq_true, ex1, ex3, ex4, exF, qfit_i, qfit_l, qfit_r, qfit_n, qfit_b0, qfit_b1, qcat_i, qcat_r, qcat_n, qcat_l, qroom_0, qroom_c, List.map_cons, List.map_nil, List.sum_cons, List.sum_nil, Nat.reduceAdd, Nat.reduceMul, Nat.reduceLT, Nat.reduceLeDiff, Nat.reduceEqDiff, Nat.reduceSub, decide_true, true_and, and_true, and_self, if_true, if_false, Option.toList_some, Option.toList_none, List.cons_append, List.nil_append, qsL, qlong, List.length_cons, List.length_nil, iN_L]
  have H0 : h = sL h 71 (fun x => if 4 * ps.length ≤ x ∧ x < 4 * ps.length + 0 then lZ (co ((cnr bs i).getD c z4) (x - 4 * ps.length)) else hl h 71 x) := by
    have : (fun x => if 4 * ps.length ≤ x ∧ x < 4 * ps.length + 0 then lZ (co ((cnr bs i).getD c z4) (x - 4 * ps.length)) else hl h 71 x) = hl h 71 := by funext x; rw [if_neg (by omega)]
    rw [this, sL_id k71]
  rw [show qEv (d + 1) 4 qk_217 2 [some (.ref 55), some (.int (iN i)), some (.int (iN c)), some (.int (iN 0))] [] h R ↔ qEv (d + 1) 4 qk_217 2 [some (.ref 55), some (.int (iN i)), some (.int (iN c)), some (.int (iN 0))] [] (sL h 71 (fun x => if 4 * ps.length ≤ x ∧ x < 4 * ps.length + 0 then lZ (co ((cnr bs i).getD c z4) (x - 4 * ps.length)) else hl h 71 x)) R by rw [← H0]]
  refine Iff.trans (loop_up (n := 4) (L := fun k => [some (.ref 55), some (.int (iN i)), some (.int (iN c)), some (.int (iN k))]) (H := fun k => sL h 71 (fun x => if 4 * ps.length ≤ x ∧ x < 4 * ps.length + k then lZ (co ((cnr bs i).getD c z4) (x - 4 * ps.length)) else hl h 71 x)) ?_) ?_
  · intro k hk
    try dsimp only
    rw [e217_2]
    obtain ⟨G, eG⟩ : ∃ G, G = fun x => if 4 * ps.length ≤ x ∧ x < 4 * ps.length + k then lZ (co ((cnr bs i).getD c z4) (x - 4 * ps.length)) else hl h 71 x := ⟨_, rfl⟩
    rw [← eG]
    have sG := sh G
    have xr : hi (sL h 71 G) 59 (64 * i + 4 * c + k) = iZ (lP (cnr bs i) c k) := by rw [hi_sL k71]; exact cv.at hc hk
    have xl : (iZ (lP (cnr bs i) c k)).toInt64 = lZ (lP (cnr bs i) c k) := iZ_long (by have := (cv.2.2 c hc k hk).2; unfold iB; omega)
    have eq1 : vp_updL G (4 * ps.length + k) (lZ (lP (cnr bs i) c k)) = fun x => if 4 * ps.length ≤ x ∧ x < 4 * ps.length + (k + 1) then lZ (co ((cnr bs i).getD c z4) (x - 4 * ps.length)) else hl h 71 x := by
      funext x
      rw [updL_at, eG]
      show (if x = 4 * ps.length + k then _ else if 4 * ps.length ≤ x ∧ x < 4 * ps.length + k then _ else _) = _
      by_cases q : x = 4 * ps.length + k
      · subst q; rw [if_pos rfl, if_pos (by omega), show 4 * ps.length + k - 4 * ps.length = k by omega]; rfl
      · rw [if_neg q]
        by_cases q2 : 4 * ps.length ≤ x ∧ x < 4 * ps.length + k
        · rw [if_pos q2, if_pos (by omega)]
        · rw [if_neg q2, if_neg (by omega)]
    have m22 : mi (sL h 71 G) 22 = iN ps.length := by rw [mi_sL k71]; exact v.2.1
    simp (disch := first | assumption | omega) only [e217_0, e217_1, e217_3, e217_4, e217_7, e217_8, e217_11, e217_12, e217_13, e217_16, e217_17, e217_18, e217_19, e217_20, e217_21, e217_22, e217_23, e217_26, e217_27, e217_28, e217_31, e217_34, e217_35, e217_38, e217_39, e217_42, e217_43, e217_44, e217_45, e217_46, e217_49, e217_50, e217_51, e217_54, m217, ↓reduceIte, qg_0, qg_1, qg_2, qg_3, qg_4, qg_5, qg_6, qg_7, qg_8, qg_9, qg_10, qg_11, qg_12, qg_13, not_true_eq_false, not_false_eq_true, Nat.reduceBEq, Bool.false_eq_true, ex1, ex3, ex4, exF, qfit_i, qfit_l, qfit_r, qfit_n, qfit_b0, qfit_b1, qcat_i, qcat_r, qcat_n, qcat_l, qroom_0, qroom_c, List.map_cons, List.map_nil, List.sum_cons, List.sum_nil, Nat.reduceAdd, Nat.reduceMul, Nat.reduceLT, Nat.reduceLeDiff, Nat.reduceEqDiff, Nat.reduceSub, decide_true, true_and, and_true, and_self, if_true, if_false, Option.toList_some, Option.toList_none, List.cons_append, List.nil_append, qsL, qlong, List.length_cons, List.length_nil, iN_L, iN_le, show ¬ 4 ≤ k by omega, gM_20, gM_22, m22, iN_mul, iN_add, vM1, vM2, s_x sG, xr, xl, wM_71, hl_sL, sL_sL, eq1, exI]
  · try dsimp only
    rw [e217_2]
    obtain ⟨h2, eh2⟩ : ∃ h2, h2 = sL h 71 (fun x => if 4 * ps.length ≤ x ∧ x < 4 * ps.length + 4 then lZ (co ((cnr bs i).getD c z4) (x - 4 * ps.length)) else hl h 71 x) := ⟨_, rfl⟩
    have s2 : ShM h2 := by rw [eh2]; exact sh _
    have k72 := kM_72 s2
    have m22 : mi h2 22 = iN ps.length := by rw [eh2, mi_sL k71]; exact v.2.1
    have s3 : ∀ G, ShM (sL h2 72 G) := fun G => s2.rowL k72
    have e72 : hl h2 72 = hl h 72 := by rw [eh2, hl_sL, if_neg (by decide)]
    rw [← eh2]
    have fin : prtH h ps.length (co ((cnr bs i).getD c z4)) 1 = mI (sL h2 72 (vp_updL (hl h2 72) ps.length (lZ 1))) 22 (iN (ps.length + 1)) := by rw [e72, eh2]; rfl
    have l255 := v.1
    simp (disch := first | assumption | omega | exact s3 _) only [e217_0, e217_1, e217_3, e217_4, e217_7, e217_8, e217_11, e217_12, e217_13, e217_16, e217_17, e217_18, e217_19, e217_20, e217_21, e217_22, e217_23, e217_26, e217_27, e217_28, e217_31, e217_34, e217_35, e217_38, e217_39, e217_42, e217_43, e217_44, e217_45, e217_46, e217_49, e217_50, e217_51, e217_54, m217, ↓reduceIte, qg_0, qg_1, qg_2, qg_3, qg_4, qg_5, qg_6, qg_7, qg_8, qg_9, qg_10, qg_11, qg_12, qg_13, not_true_eq_false, not_false_eq_true, Nat.reduceBEq, Bool.false_eq_true, ex1, ex3, ex4, exF, qfit_i, qfit_l, qfit_r, qfit_n, qfit_b0, qfit_b1, qcat_i, qcat_r, qcat_n, qcat_l, qroom_0, qroom_c, List.map_cons, List.map_nil, List.sum_cons, List.sum_nil, Nat.reduceAdd, Nat.reduceMul, Nat.reduceLT, Nat.reduceLeDiff, Nat.reduceEqDiff, Nat.reduceSub, decide_true, true_and, and_true, and_self, if_true, if_false, Option.toList_some, Option.toList_none, List.cons_append, List.nil_append, qsL, qlong, List.length_cons, List.length_nil, iN_L, iN_le, Nat.le_refl, gM_21, gM_22, m22, show (1 : Int64) = lZ 1 from rfl, wM_72, mi_sL k72, iN_add, pM_22, fin]
end PUTPART

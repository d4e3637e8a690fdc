/-! ===== THE CLASS: tellSpot, tellTo ===== -/
section XTELLTO
variable {d D : Nat} {h : qH} {R : qRes} {bs : List bdy} {sa : Nat → Nat} {l : List pt4} {w : Nat}
theorem lZ_i (z : Int) : (lZ z).toInt32 = iZ z := by
  unfold lZ iZ
  exact Int64.toInt32_ofInt
theorem rw_co (w : Nat) (V : Nat → Int) : co (rwP w V) 0 = V (drX w 0) ∧ co (rwP w V) 1 = V (drX w 1) ∧ co (rwP w V) 2 = V (drX w 2) ∧ co (rwP w V) 3 = if w < 4 then 0 else V 3 := ⟨rfl, rfl, rfl, rfl⟩
/-- a place goes beyond -/
def badV (w : Nat) (V : Nat → Int) : Prop := ∃ k, k < 4 ∧ 999 < (co (rwP w V) k).natAbs
theorem badV_iff {V : Nat → Int} (hw : w ≤ 4) : badV w V ↔ ∃ k, k < 4 ∧ k ≠ w ∧ 999 < (V k).natAbs := by
  obtain ⟨c0, c1, c2, c3⟩ := rw_co w V
  constructor
  · rintro ⟨k, hk, hb⟩
    match k, hk with
    | 0, _ => rw [c0] at hb; exact ⟨drX w 0, by unfold drX; split <;> omega, by unfold drX; split <;> omega, hb⟩
    | 1, _ => rw [c1] at hb; exact ⟨drX w 1, by unfold drX; split <;> omega, by unfold drX; split <;> omega, hb⟩
    | 2, _ => rw [c2] at hb; exact ⟨drX w 2, by unfold drX; split <;> omega, by unfold drX; split <;> omega, hb⟩
    | 3, _ =>
      rw [c3] at hb
      by_cases z : w < 4
      · rw [if_pos z] at hb; exact absurd hb (by decide)
      · rw [if_neg z] at hb; exact ⟨3, by decide, by omega, hb⟩
  · rintro ⟨k, hk, hne, hb⟩
    by_cases z : k < w
    · rcases (show k < 3 ∨ k = 3 by omega) with y | y
      · refine ⟨k, hk, ?_⟩
        have e : drX w k = k := by unfold drX; rw [if_pos z]
        match k, y with
        | 0, _ => rw [c0, e]; exact hb
        | 1, _ => rw [c1, e]; exact hb
        | 2, _ => rw [c2, e]; exact hb
      · refine ⟨3, by decide, ?_⟩
        rw [c3, if_neg (by omega), ← y]; exact hb
    · obtain ⟨j, rfl⟩ : ∃ j, k = j + 1 := ⟨k - 1, by omega⟩
      have e : drX w j = j + 1 := by unfold drX; rw [if_neg (by omega)]
      refine ⟨j, by omega, ?_⟩
      match j, (show j < 3 by omega) with
      | 0, _ => rw [c0, e]; exact hb
      | 1, _ => rw [c1, e]; exact hb
      | 2, _ => rw [c2, e]; exact hb
set_option maxRecDepth 100000 in
set_option maxHeartbeats 32000000 in
theorem x_tellSpot {i : Nat} {lv : Nat → Int} {V : Nat → Int} (s : ShX h) (v : SeX h bs sa i lv w) (t : HtX h D l) (hD : D < 1000) (hV : ∀ k, k < 4 → hl h 29 k = lZ (V k) ∧ lB (V k)) : ∃ h', ChX [20, 29] [(19, 1), (19, 2)] 0 h h' ∧ (badV w V → ∀ R, qMC (d + 2) 100 [.ref 27, .ref 19] h R ↔ R = (some (.int (iN 0)), h')) ∧ (¬ badV w V → (∀ R, qMC (d + 2) 100 [.ref 27, .ref 19] h R ↔ R = (some (.int (iN 1)), h')) ∧ HtX h' D (addP l (prj D (rwP w V)))) := by
  have w4 := v.2.2.1
  have v2 := v.2.1
  have k29 := kX_29 s
  obtain ⟨U, eU⟩ : ∃ U : Nat → Int, U = co (rwP w V) := ⟨_, rfl⟩
  have Ul : ∀ k, k < 4 → lB (U k) := fun k hk => by
    obtain ⟨c0, c1, c2, c3⟩ := rw_co w V
    have dl : ∀ t, t < 3 → drX w t < 4 := fun t ht => by unfold drX; split <;> omega
    rw [eU]
    match k, hk with
    | 0, _ => rw [c0]; exact (hV _ (dl 0 (by decide))).2
    | 1, _ => rw [c1]; exact (hV _ (dl 1 (by decide))).2
    | 2, _ => rw [c2]; exact (hV _ (dl 2 (by decide))).2
    | 3, _ =>
      rw [c3]
      split
      · exact lB_0
      · exact (hV 3 (by decide)).2
  obtain ⟨h1, e1⟩ : ∃ h1, h1 = sL h 29 (fun x => if x < 4 then lZ (U x) else hl h 29 x) := ⟨_, rfl⟩
  have c1 : ChX [20, 29] [(19, 1), (19, 2)] 0 h h1 := by rw [e1]; exact ChX.rowL s k29 (by decide) (by decide)
  have c1' : ChX [29] [] 0 h h1 := by rw [e1]; exact ChX.rowL s k29 (by decide) (by decide)
  have s1 := c1.sh
  have rd : ∀ k, k < 4 → qlald h1 29 (iN k) = some (lZ (U k)) := fun k hk => by rw [rX_29 s1 hk, e1, hl_sL, if_pos rfl, if_pos hk]
  have t1 := t.ch c1' s (by decide) (by decide) (by decide) (by decide)
  -- the axis that is dropped
  have r0 : ∀ R, qMC (d + 2) 100 [.ref 27, .ref 19] h R ↔ qEv (d + 1) 3 qk_100 47 [some (.ref 27), some (.ref 19), some (.int (iN 0))] [] h1 R := fun R => by
    by_cases z : w = 4
    · rw [if_pos z] at v2
      have : h1 = h := by
        rw [e1]
        have : (fun x => if x < 4 then lZ (U x) else hl h 29 x) = hl h 29 := by
          funext x
          by_cases y : x < 4
          · rw [if_pos y, (hV x y).1, eU, z]
            match x, y with
            | 0, _ => rfl
            | 1, _ => rfl
            | 2, _ => rfl
            | 3, _ => rfl
          · rw [if_neg y]
        rw [this, sL_id k29]
      rw [this]
      simp (disch := first | assumption | omega) only [e100_0, e100_1, e100_4, e100_5, e100_8, e100_9, e100_12, e100_13, e100_14, e100_15, e100_18, e100_19, e100_22, e100_23, e100_24, e100_27, e100_28, e100_29, e100_30, e100_31, e100_32, e100_35, e100_38, e100_39, e100_42, e100_43, e100_44, e100_45, e100_46, e100_48, e100_49, e100_52, e100_53, e100_56, e100_57, e100_58, e100_61, e100_64, e100_65, e100_68, e100_69, e100_70, e100_73, e100_76, e100_77, e100_78, e100_81, e100_82, e100_83, e100_84, e100_85, e100_88, e100_89, e100_90, e100_91, e100_92, e100_95, e100_96, e100_97, e100_98, e100_99, e100_102, e100_103, e100_104, e100_105, e100_108, e100_109, m100, ↓reduceIte, qg_0, qg_1, qg_2, qg_3, qg_4, qg_5, qg_6, qg_7, qg_8, qg_9, qg_10, qg_11, qg_12, qg_13, not_true_eq_false, not_false_eq_true, Nat.reduceBEq, Bool.false_eq_true, ex1, ex3, ex4, exF, qfit_i, qfit_l, qfit_r, qfit_n, qfit_b0, qfit_b1, qcat_i, qcat_r, qcat_n, qcat_l, qroom_0, qroom_c, List.map_cons, List.map_nil, List.sum_cons, List.sum_nil, Nat.reduceAdd, Nat.reduceMul, Nat.reduceLT, Nat.reduceLeDiff, Nat.reduceEqDiff, Nat.reduceSub, decide_true, true_and, and_true, and_self, if_true, if_false, Option.toList_some, Option.toList_none, List.cons_append, List.nil_append, qsL, qlong, List.length_cons, List.length_nil, iN_L, exI, iN_add, iN_mul, iN_le, iN_lt, iN_eq, Nat.le_refl, qfN0, qfN1, uX_16, vX_16, uX_19, vX_19, uX_27, vX_27, uX_30, vX_30, uX_39, vX_39, uX_41, vX_41, uX_43, vX_43, uX_46, vX_46, uX_50, vX_50, uX_53, vX_53, uX_27, vX_27, gX_27_2, v2]
    · rw [if_neg z] at v2
      have nw : ¬ iN w = -iN 1 := fun y => by
        have : iN w < iN 0 := by rw [y]; decide
        rw [iN_lt (by omega) (by omega)] at this; omega
      obtain ⟨H, eH⟩ : ∃ H : Nat → qH, H = fun a => sL h 29 (fun x => if w ≤ x ∧ x < w + a then lZ (V (x + 1)) else hl h 29 x) := ⟨_, rfl⟩
      have cH : ∀ a, ChX [29] [] 0 h (H a) := fun a => by rw [eH]; exact ChX.rowL s k29 (by decide) (by decide)
      have H0 : h = H 0 := by
        rw [eH]
        have : (fun x => if w ≤ x ∧ x < w + 0 then lZ (V (x + 1)) else hl h 29 x) = hl h 29 := by funext x; rw [if_neg (by omega)]
        show h = sL h 29 (fun x => if w ≤ x ∧ x < w + 0 then lZ (V (x + 1)) else hl h 29 x)
        rw [this, sL_id k29]
      have a0 : qMC (d + 2) 100 [.ref 27, .ref 19] h R ↔ qEv (d + 1) 3 qk_100 13 [some (.ref 27), some (.ref 19), some (.int (iN (w + 0)))] [] (H 0) R := by
        rw [← H0]
        simp (disch := first | assumption | omega) only [e100_0, e100_1, e100_4, e100_5, e100_8, e100_9, e100_12, e100_14, e100_15, e100_18, e100_19, e100_22, e100_23, e100_24, e100_27, e100_28, e100_29, e100_30, e100_31, e100_32, e100_35, e100_38, e100_39, e100_42, e100_43, e100_44, e100_45, e100_46, e100_47, e100_48, e100_49, e100_52, e100_53, e100_56, e100_57, e100_58, e100_61, e100_64, e100_65, e100_68, e100_69, e100_70, e100_73, e100_76, e100_77, e100_78, e100_81, e100_82, e100_83, e100_84, e100_85, e100_88, e100_89, e100_90, e100_91, e100_92, e100_95, e100_96, e100_97, e100_98, e100_99, e100_102, e100_103, e100_104, e100_105, e100_108, e100_109, m100, ↓reduceIte, qg_0, qg_1, qg_2, qg_3, qg_4, qg_5, qg_6, qg_7, qg_8, qg_9, qg_10, qg_11, qg_12, qg_13, not_true_eq_false, not_false_eq_true, Nat.reduceBEq, Bool.false_eq_true, ex1, ex3, ex4, exF, qfit_i, qfit_l, qfit_r, qfit_n, qfit_b0, qfit_b1, qcat_i, qcat_r, qcat_n, qcat_l, qroom_0, qroom_c, List.map_cons, List.map_nil, List.sum_cons, List.sum_nil, Nat.reduceAdd, Nat.reduceMul, Nat.reduceLT, Nat.reduceLeDiff, Nat.reduceEqDiff, Nat.reduceSub, decide_true, true_and, and_true, and_self, if_true, if_false, Option.toList_some, Option.toList_none, List.cons_append, List.nil_append, qsL, qlong, List.length_cons, List.length_nil, iN_L, exI, iN_add, iN_mul, iN_le, iN_lt, iN_eq, Nat.le_refl, qfN0, qfN1, uX_16, vX_16, uX_19, vX_19, uX_27, vX_27, uX_30, vX_30, uX_39, vX_39, uX_41, vX_41, uX_43, vX_43, uX_46, vX_46, uX_50, vX_50, uX_53, vX_53, uX_27, vX_27, gX_27_2, v2, nw, Nat.add_zero]
      rw [a0]
      refine Iff.trans (loop_up (n := 3 - w) (L := fun a => [some (.ref 27), some (.ref 19), some (.int (iN (w + a)))]) (H := H) ?_) ?_
      · intro a ha
        try dsimp only
        have sa' := (cH a).sh
        have ra : qlald (H a) 29 (iN (w + a + 1)) = some (lZ (V (w + a + 1))) := by
          rw [rX_29 sa' (by omega), eH]
          show some (hl (sL h 29 _) 29 (w + a + 1)) = _
          rw [hl_sL, if_pos rfl, if_neg (by omega), (hV _ (by omega)).1]
        have wa : qlast (H a) 29 (iN (w + a)) (lZ (V (w + a + 1))) = some (H (a + 1)) := by
          rw [wX_29 sa' (by omega), eH]
          show some (sL (sL h 29 _) 29 (vp_updL (hl (sL h 29 _) 29) (w + a) _)) = some (sL h 29 _)
          rw [sL_sL, hl_sL, if_pos rfl]
          congr 2
          funext x
          show (if x = w + a then lZ (V (w + a + 1)) else (if w ≤ x ∧ x < w + a then lZ (V (x + 1)) else hl h 29 x)) = (if w ≤ x ∧ x < w + (a + 1) then lZ (V (x + 1)) else hl h 29 x)
          by_cases y : x = w + a
          · rw [if_pos y, if_pos (by omega), y]
          · rw [if_neg y]
            by_cases y2 : w ≤ x ∧ x < w + a
            · rw [if_pos y2, if_pos (by omega)]
            · rw [if_neg y2, if_neg (by omega)]
        rw [show w + (a + 1) = w + a + 1 from rfl, e100_13]
        simp (disch := first | assumption | omega) only [e100_0, e100_1, e100_4, e100_5, e100_8, e100_9, e100_12, e100_14, e100_15, e100_18, e100_19, e100_22, e100_23, e100_24, e100_27, e100_28, e100_29, e100_30, e100_31, e100_32, e100_35, e100_38, e100_39, e100_42, e100_43, e100_44, e100_45, e100_46, e100_48, e100_49, e100_52, e100_53, e100_56, e100_57, e100_58, e100_61, e100_64, e100_65, e100_68, e100_69, e100_70, e100_73, e100_76, e100_77, e100_78, e100_81, e100_82, e100_83, e100_84, e100_85, e100_88, e100_89, e100_90, e100_91, e100_92, e100_95, e100_96, e100_97, e100_98, e100_99, e100_102, e100_103, e100_104, e100_105, e100_108, e100_109, m100, ↓reduceIte, qg_0, qg_1, qg_2, qg_3, qg_4, qg_5, qg_6, qg_7, qg_8, qg_9, qg_10, qg_11, qg_12, qg_13, not_true_eq_false, not_false_eq_true, Nat.reduceBEq, Bool.false_eq_true, ex1, ex3, ex4, exF, qfit_i, qfit_l, qfit_r, qfit_n, qfit_b0, qfit_b1, qcat_i, qcat_r, qcat_n, qcat_l, qroom_0, qroom_c, List.map_cons, List.map_nil, List.sum_cons, List.sum_nil, Nat.reduceAdd, Nat.reduceMul, Nat.reduceLT, Nat.reduceLeDiff, Nat.reduceEqDiff, Nat.reduceSub, decide_true, true_and, and_true, and_self, if_true, if_false, Option.toList_some, Option.toList_none, List.cons_append, List.nil_append, qsL, qlong, List.length_cons, List.length_nil, iN_L, exI, iN_add, iN_mul, iN_le, iN_lt, iN_eq, Nat.le_refl, qfN0, qfN1, uX_16, vX_16, uX_19, vX_19, uX_27, vX_27, uX_30, vX_30, uX_39, vX_39, uX_41, vX_41, uX_43, vX_43, uX_46, vX_46, uX_50, vX_50, uX_53, vX_53, uX_27, vX_27, show ¬ 3 ≤ w + a by omega, gX_27_4, ra, wa]
      · try dsimp only
        have sa' := (cH (3 - w)).sh
        have e3 : w + (3 - w) = 3 := by omega
        have wz : qlast (H (3 - w)) 29 (iN 3) (lZ 0) = some h1 := by
          rw [wX_29 sa' (by omega), eH, e1]
          show some (sL (sL h 29 _) 29 (vp_updL (hl (sL h 29 _) 29) 3 _)) = some (sL h 29 _)
          rw [sL_sL, hl_sL, if_pos rfl]
          congr 2
          funext x
          show (if x = 3 then lZ 0 else (if w ≤ x ∧ x < w + (3 - w) then lZ (V (x + 1)) else hl h 29 x)) = (if x < 4 then lZ (U x) else hl h 29 x)
          rw [e3]
          obtain ⟨c0, c1', c2, c3⟩ := rw_co w V
          by_cases y : x = 3
          · rw [if_pos y, if_pos (by omega), y, eU, c3, if_pos (by omega)]
          · rw [if_neg y]
            by_cases y2 : x < 4
            · rw [if_pos y2, eU]
              have ed : co (rwP w V) x = V (drX w x) := by
                match x, (show x < 3 by omega) with
                | 0, _ => exact c0
                | 1, _ => exact c1'
                | 2, _ => exact c2
              rw [ed]
              unfold drX
              by_cases y3 : x < w
              · rw [if_neg (by omega), if_pos y3, (hV x y2).1]
              · rw [if_pos (by omega), if_neg y3]
            · rw [if_neg y2, if_neg (by omega)]
        rw [e3, e100_13]
        simp (disch := first | assumption | omega) only [e100_0, e100_1, e100_4, e100_5, e100_8, e100_9, e100_12, e100_14, e100_15, e100_18, e100_19, e100_22, e100_23, e100_24, e100_27, e100_28, e100_29, e100_30, e100_31, e100_32, e100_35, e100_38, e100_39, e100_42, e100_43, e100_44, e100_45, e100_46, e100_48, e100_49, e100_52, e100_53, e100_56, e100_57, e100_58, e100_61, e100_64, e100_65, e100_68, e100_69, e100_70, e100_73, e100_76, e100_77, e100_78, e100_81, e100_82, e100_83, e100_84, e100_85, e100_88, e100_89, e100_90, e100_91, e100_92, e100_95, e100_96, e100_97, e100_98, e100_99, e100_102, e100_103, e100_104, e100_105, e100_108, e100_109, m100, ↓reduceIte, qg_0, qg_1, qg_2, qg_3, qg_4, qg_5, qg_6, qg_7, qg_8, qg_9, qg_10, qg_11, qg_12, qg_13, not_true_eq_false, not_false_eq_true, Nat.reduceBEq, Bool.false_eq_true, ex1, ex3, ex4, exF, qfit_i, qfit_l, qfit_r, qfit_n, qfit_b0, qfit_b1, qcat_i, qcat_r, qcat_n, qcat_l, qroom_0, qroom_c, List.map_cons, List.map_nil, List.sum_cons, List.sum_nil, Nat.reduceAdd, Nat.reduceMul, Nat.reduceLT, Nat.reduceLeDiff, Nat.reduceEqDiff, Nat.reduceSub, decide_true, true_and, and_true, and_self, if_true, if_false, Option.toList_some, Option.toList_none, List.cons_append, List.nil_append, qsL, qlong, List.length_cons, List.length_nil, iN_L, exI, iN_add, iN_mul, iN_le, iN_lt, iN_eq, Nat.le_refl, qfN0, qfN1, uX_16, vX_16, uX_19, vX_19, uX_27, vX_27, uX_30, vX_30, uX_39, vX_39, uX_41, vX_41, uX_43, vX_43, uX_46, vX_46, uX_50, vX_50, uX_53, vX_53, uX_27, vX_27, gX_27_4, show (0 : Int64) = lZ 0 from rfl, wz]
  have ab : ∀ k, k < 4 → ∀ R, qMC (d + 1) 311 [.long (lZ (U k))] h1 R ↔ R = (some (.long (lZ (U k).natAbs)), h1) := fun k hk R => x_absL (Ul k hk)
  have cmp : ∀ k, k < 4 → (lZ ((U k).natAbs : Int) ≤ lZ 999 ↔ (U k).natAbs ≤ 999) := fun k hk => by rw [lZ_le (lB_abs (Ul k hk)) (by unfold lB; omega)]; omega
  by_cases bad : badV w V
  · refine ⟨h1, c1, fun _ R => ?_, fun z => absurd bad z⟩
    rw [r0 R]
    obtain ⟨k0, hk0, hb0⟩ := bad
    rw [← eU] at hb0
    have go : ∀ (m k : Nat), k + m = 4 → (∃ j, k ≤ j ∧ j < 4 ∧ 999 < (U j).natAbs) → (qEv (d + 1) 3 qk_100 47 [some (.ref 27), some (.ref 19), some (.int (iN k))] [] h1 R ↔ R = (some (.int (iN 0)), h1)) := by
      intro m
      induction m with
      | zero => intro k hk ⟨j, j1, j2, _⟩; omega
      | succ m ih =>
        intro k hk ⟨j, j1, j2, j3⟩
        have rk := rd k (by omega)
        have ak := ab k (by omega)
        have ck := cmp k (by omega)
        by_cases z : (U k).natAbs ≤ 999
        · have le := ck.mpr z
          rw [← ih (k + 1) (by omega) ⟨j, by
            rcases Nat.lt_or_ge k j with y | y
            · exact y
            · rw [show j = k by omega] at j3; omega, j2, j3⟩, e100_47]
          simp (disch := first | assumption | omega) only [e100_0, e100_1, e100_4, e100_5, e100_8, e100_9, e100_12, e100_14, e100_15, e100_18, e100_19, e100_22, e100_23, e100_24, e100_27, e100_28, e100_29, e100_30, e100_31, e100_32, e100_35, e100_38, e100_39, e100_42, e100_43, e100_44, e100_45, e100_46, e100_48, e100_49, e100_52, e100_53, e100_56, e100_57, e100_58, e100_61, e100_64, e100_65, e100_68, e100_69, e100_70, e100_73, e100_76, e100_77, e100_78, e100_81, e100_82, e100_83, e100_84, e100_85, e100_88, e100_89, e100_90, e100_91, e100_92, e100_95, e100_96, e100_97, e100_98, e100_99, e100_102, e100_103, e100_104, e100_105, e100_108, e100_109, m100, ↓reduceIte, qg_0, qg_1, qg_2, qg_3, qg_4, qg_5, qg_6, qg_7, qg_8, qg_9, qg_10, qg_11, qg_12, qg_13, not_true_eq_false, not_false_eq_true, Nat.reduceBEq, Bool.false_eq_true, ex1, ex3, ex4, exF, qfit_i, qfit_l, qfit_r, qfit_n, qfit_b0, qfit_b1, qcat_i, qcat_r, qcat_n, qcat_l, qroom_0, qroom_c, List.map_cons, List.map_nil, List.sum_cons, List.sum_nil, Nat.reduceAdd, Nat.reduceMul, Nat.reduceLT, Nat.reduceLeDiff, Nat.reduceEqDiff, Nat.reduceSub, decide_true, true_and, and_true, and_self, if_true, if_false, Option.toList_some, Option.toList_none, List.cons_append, List.nil_append, qsL, qlong, List.length_cons, List.length_nil, iN_L, exI, iN_add, iN_mul, iN_le, iN_lt, iN_eq, Nat.le_refl, qfN0, qfN1, uX_16, vX_16, uX_19, vX_19, uX_27, vX_27, uX_30, vX_30, uX_39, vX_39, uX_41, vX_41, uX_43, vX_43, uX_46, vX_46, uX_50, vX_50, uX_53, vX_53, uX_27, vX_27, show ¬ 4 ≤ k by omega, gX_27_4, rk, ak, lgN_le, show (999 : Int64) = lZ 999 from rfl, le]
        · have le : ¬ lZ ((U k).natAbs : Int) ≤ lZ 999 := fun y => z (ck.mp y)
          rw [e100_47]
          simp (disch := first | assumption | omega) only [e100_0, e100_1, e100_4, e100_5, e100_8, e100_9, e100_12, e100_14, e100_15, e100_18, e100_19, e100_22, e100_23, e100_24, e100_27, e100_28, e100_29, e100_30, e100_31, e100_32, e100_35, e100_38, e100_39, e100_42, e100_43, e100_44, e100_45, e100_46, e100_48, e100_49, e100_52, e100_53, e100_56, e100_57, e100_58, e100_61, e100_64, e100_65, e100_68, e100_69, e100_70, e100_73, e100_76, e100_77, e100_78, e100_81, e100_82, e100_83, e100_84, e100_85, e100_88, e100_89, e100_90, e100_91, e100_92, e100_95, e100_96, e100_97, e100_98, e100_99, e100_102, e100_103, e100_104, e100_105, e100_108, e100_109, m100, ↓reduceIte, qg_0, qg_1, qg_2, qg_3, qg_4, qg_5, qg_6, qg_7, qg_8, qg_9, qg_10, qg_11, qg_12, qg_13, not_true_eq_false, not_false_eq_true, Nat.reduceBEq, Bool.false_eq_true, ex1, ex3, ex4, exF, qfit_i, qfit_l, qfit_r, qfit_n, qfit_b0, qfit_b1, qcat_i, qcat_r, qcat_n, qcat_l, qroom_0, qroom_c, List.map_cons, List.map_nil, List.sum_cons, List.sum_nil, Nat.reduceAdd, Nat.reduceMul, Nat.reduceLT, Nat.reduceLeDiff, Nat.reduceEqDiff, Nat.reduceSub, decide_true, true_and, and_true, and_self, if_true, if_false, Option.toList_some, Option.toList_none, List.cons_append, List.nil_append, qsL, qlong, List.length_cons, List.length_nil, iN_L, exI, iN_add, iN_mul, iN_le, iN_lt, iN_eq, Nat.le_refl, qfN0, qfN1, uX_16, vX_16, uX_19, vX_19, uX_27, vX_27, uX_30, vX_30, uX_39, vX_39, uX_41, vX_41, uX_43, vX_43, uX_46, vX_46, uX_50, vX_50, uX_53, vX_53, uX_27, vX_27, show ¬ 4 ≤ k by omega, gX_27_4, rk, ak, lgN_le, show (999 : Int64) = lZ 999 from rfl, le]
    exact go 4 0 rfl ⟨k0, Nat.zero_le _, hk0, hb0⟩
  · have sml : ∀ k, k < 4 → (U k).natAbs ≤ 999 := fun k hk => by
      rcases Nat.lt_or_ge 999 (U k).natAbs with z | z
      · exact absurd ⟨k, hk, by rw [← eU]; exact z⟩ bad
      · exact z
    obtain ⟨h2, r2, c2, t2⟩ := x_tell (d := d) (q := rwP w V) s1 hD t1 (fun k hk => by
      have := sml k hk
      rw [eU] at this
      unfold iB; omega)
    have r2' : ∀ R, qMC (d + 1) 14 [.ref 19, .int (iZ (U 0)), .int (iZ (U 1)), .int (iZ (U 2)), .int (iZ (U 3))] h1 R ↔ R = (none, h2) := fun R => by rw [eU]; exact r2 R
    refine ⟨h2, c1.trans0 (c2.mono (by decide) (fun _ z => z) (Nat.le_refl _)), fun z => absurd z bad, fun _ => ⟨fun R => ?_, t2⟩⟩
    have st : qEv (d + 1) 3 qk_100 47 [some (.ref 27), some (.ref 19), some (.int (iN 0))] [] h1 R ↔ qEv (d + 1) 3 qk_100 76 [some (.ref 27), some (.ref 19), some (.int (iN 4))] [] h1 R := by
      refine Iff.trans (loop_up (n := 4) (L := fun k => [some (.ref 27), some (.ref 19), some (.int (iN k))]) (H := fun _ => h1) ?_) ?_
      · intro k hk
        try dsimp only
        have rk := rd k hk
        have ak := ab k hk
        have le := (cmp k hk).mpr (sml k hk)
        rw [e100_47]
        simp (disch := first | assumption | omega) only [e100_0, e100_1, e100_4, e100_5, e100_8, e100_9, e100_12, e100_14, e100_15, e100_18, e100_19, e100_22, e100_23, e100_24, e100_27, e100_28, e100_29, e100_30, e100_31, e100_32, e100_35, e100_38, e100_39, e100_42, e100_43, e100_44, e100_45, e100_46, e100_48, e100_49, e100_52, e100_53, e100_56, e100_57, e100_58, e100_61, e100_64, e100_65, e100_68, e100_69, e100_70, e100_73, e100_77, e100_78, e100_81, e100_82, e100_83, e100_84, e100_85, e100_88, e100_89, e100_90, e100_91, e100_92, e100_95, e100_96, e100_97, e100_98, e100_99, e100_102, e100_103, e100_104, e100_105, e100_108, e100_109, m100, ↓reduceIte, qg_0, qg_1, qg_2, qg_3, qg_4, qg_5, qg_6, qg_7, qg_8, qg_9, qg_10, qg_11, qg_12, qg_13, not_true_eq_false, not_false_eq_true, Nat.reduceBEq, Bool.false_eq_true, ex1, ex3, ex4, exF, qfit_i, qfit_l, qfit_r, qfit_n, qfit_b0, qfit_b1, qcat_i, qcat_r, qcat_n, qcat_l, qroom_0, qroom_c, List.map_cons, List.map_nil, List.sum_cons, List.sum_nil, Nat.reduceAdd, Nat.reduceMul, Nat.reduceLT, Nat.reduceLeDiff, Nat.reduceEqDiff, Nat.reduceSub, decide_true, true_and, and_true, and_self, if_true, if_false, Option.toList_some, Option.toList_none, List.cons_append, List.nil_append, qsL, qlong, List.length_cons, List.length_nil, iN_L, exI, iN_add, iN_mul, iN_le, iN_lt, iN_eq, Nat.le_refl, qfN0, qfN1, uX_16, vX_16, uX_19, vX_19, uX_27, vX_27, uX_30, vX_30, uX_39, vX_39, uX_41, vX_41, uX_43, vX_43, uX_46, vX_46, uX_50, vX_50, uX_53, vX_53, uX_27, vX_27, show ¬ 4 ≤ k by omega, gX_27_4, rk, ak, lgN_le, show (999 : Int64) = lZ 999 from rfl, le]
      · try dsimp only
        rw [e100_47]
        simp (disch := first | assumption | omega) only [e100_0, e100_1, e100_4, e100_5, e100_8, e100_9, e100_12, e100_14, e100_15, e100_18, e100_19, e100_22, e100_23, e100_24, e100_27, e100_28, e100_29, e100_30, e100_31, e100_32, e100_35, e100_38, e100_39, e100_42, e100_43, e100_44, e100_45, e100_46, e100_48, e100_49, e100_52, e100_53, e100_56, e100_57, e100_58, e100_61, e100_64, e100_65, e100_68, e100_69, e100_70, e100_73, e100_77, e100_78, e100_81, e100_82, e100_83, e100_84, e100_85, e100_88, e100_89, e100_90, e100_91, e100_92, e100_95, e100_96, e100_97, e100_98, e100_99, e100_102, e100_103, e100_104, e100_105, e100_108, e100_109, m100, ↓reduceIte, qg_0, qg_1, qg_2, qg_3, qg_4, qg_5, qg_6, qg_7, qg_8, qg_9, qg_10, qg_11, qg_12, qg_13, not_true_eq_false, not_false_eq_true, Nat.reduceBEq, Bool.false_eq_true, ex1, ex3, ex4, exF, qfit_i, qfit_l, qfit_r, qfit_n, qfit_b0, qfit_b1, qcat_i, qcat_r, qcat_n, qcat_l, qroom_0, qroom_c, List.map_cons, List.map_nil, List.sum_cons, List.sum_nil, Nat.reduceAdd, Nat.reduceMul, Nat.reduceLT, Nat.reduceLeDiff, Nat.reduceEqDiff, Nat.reduceSub, decide_true, true_and, and_true, and_self, if_true, if_false, Option.toList_some, Option.toList_none, List.cons_append, List.nil_append, qsL, qlong, List.length_cons, List.length_nil, iN_L, exI, iN_add, iN_mul, iN_le, iN_lt, iN_eq, Nat.le_refl, qfN0, qfN1, uX_16, vX_16, uX_19, vX_19, uX_27, vX_27, uX_30, vX_30, uX_39, vX_39, uX_41, vX_41, uX_43, vX_43, uX_46, vX_46, uX_50, vX_50, uX_53, vX_53]
    have q0 := rd 0 (by decide)
    have q1 := rd 1 (by decide)
    have q2 := rd 2 (by decide)
    have q3 := rd 3 (by decide)
    rw [r0 R, st, e100_76]
    simp (disch := first | assumption | omega) only [e100_0, e100_1, e100_4, e100_5, e100_8, e100_9, e100_12, e100_14, e100_15, e100_18, e100_19, e100_22, e100_23, e100_24, e100_27, e100_28, e100_29, e100_30, e100_31, e100_32, e100_35, e100_38, e100_39, e100_42, e100_43, e100_44, e100_45, e100_46, e100_48, e100_49, e100_52, e100_53, e100_56, e100_57, e100_58, e100_61, e100_64, e100_65, e100_68, e100_69, e100_70, e100_73, e100_77, e100_78, e100_81, e100_82, e100_83, e100_84, e100_85, e100_88, e100_89, e100_90, e100_91, e100_92, e100_95, e100_96, e100_97, e100_98, e100_99, e100_102, e100_103, e100_104, e100_105, e100_108, e100_109, m100, ↓reduceIte, qg_0, qg_1, qg_2, qg_3, qg_4, qg_5, qg_6, qg_7, qg_8, qg_9, qg_10, qg_11, qg_12, qg_13, not_true_eq_false, not_false_eq_true, Nat.reduceBEq, Bool.false_eq_true, ex1, ex3, ex4, exF, qfit_i, qfit_l, qfit_r, qfit_n, qfit_b0, qfit_b1, qcat_i, qcat_r, qcat_n, qcat_l, qroom_0, qroom_c, List.map_cons, List.map_nil, List.sum_cons, List.sum_nil, Nat.reduceAdd, Nat.reduceMul, Nat.reduceLT, Nat.reduceLeDiff, Nat.reduceEqDiff, Nat.reduceSub, decide_true, true_and, and_true, and_self, if_true, if_false, Option.toList_some, Option.toList_none, List.cons_append, List.nil_append, qsL, qlong, List.length_cons, List.length_nil, iN_L, exI, iN_add, iN_mul, iN_le, iN_lt, iN_eq, Nat.le_refl, qfN0, qfN1, uX_16, vX_16, uX_19, vX_19, uX_27, vX_27, uX_30, vX_30, uX_39, vX_39, uX_41, vX_41, uX_43, vX_43, uX_46, vX_46, uX_50, vX_50, uX_53, vX_53, uX_27, vX_27, gX_27_4, q0, q1, q2, q3, lZ_i, r2']
set_option maxRecDepth 100000 in
theorem x_dividedZ {a b : Int} (ha : lB a) (hb : lB b) (h0 : 0 < b) : qMC (d + 1) 97 [.long (lZ a), .long (lZ b)] h R ↔ R = (some (.long (lZ (a.tdiv b))), h) := by
  have nz : ¬ lZ b = lZ 0 := by rw [lZ_eq hb lB_0]; omega
  have dv := lZ_div ha hb
  simp (disch := first | assumption | omega) only [e97_0, e97_1, e97_2, e97_3, e97_6, e97_7, e97_10, e97_11, e97_12, e97_13, m97, ↓reduceIte, qg_0, qg_1, qg_2, qg_3, qg_4, qg_5, qg_6, qg_7, qg_8, qg_9, qg_10, qg_11, qg_12, qg_13, not_true_eq_false, not_false_eq_true, Nat.reduceBEq, Bool.false_eq_true, ex1, ex3, ex4, exF, qfit_i, qfit_l, qfit_r, qfit_n, qfit_b0, qfit_b1, qcat_i, qcat_r, qcat_n, qcat_l, qroom_0, qroom_c, List.map_cons, List.map_nil, List.sum_cons, List.sum_nil, Nat.reduceAdd, Nat.reduceMul, Nat.reduceLT, Nat.reduceLeDiff, Nat.reduceEqDiff, Nat.reduceSub, decide_true, true_and, and_true, and_self, if_true, if_false, Option.toList_some, Option.toList_none, List.cons_append, List.nil_append, qsL, qlong, List.length_cons, List.length_nil, iN_L, exI, iN_add, iN_mul, iN_le, iN_lt, iN_eq, Nat.le_refl, qfN0, qfN1, uX_16, vX_16, uX_19, vX_19, uX_27, vX_27, uX_30, vX_30, uX_39, vX_39, uX_41, vX_41, uX_43, vX_43, uX_46, vX_46, uX_50, vX_50, uX_53, vX_53, lgN_eq, show (0 : Int64) = lZ 0 from rfl, nz, dv]
/-- a coordinate made whole, by one division -/
theorem vlW_div {ps : List frac} {S p k : Nat} (h1 : 1 ≤ fL ps p) (hd : dnm ps p k ∣ S) : (fU ps p k * (S : Int)).tdiv (fL ps p) = vlW ps S p k := by
  obtain ⟨L, eL⟩ : ∃ L : Nat, fL ps p = (L : Int) := ⟨(fL ps p).natAbs, by omega⟩
  obtain ⟨u, eu⟩ : ∃ u, u = fU ps p k := ⟨_, rfl⟩
  have hd' : dnm ps p k = L / Nat.gcd u.natAbs L := by unfold dnm; rw [eL, ← eu]; rfl
  unfold vlW
  rw [hd', eL, ← eu]
  rw [hd'] at hd
  show _ = u.tdiv ((Nat.gcd u.natAbs L : Nat) : Int) * _
  have L0 : 0 < L := by omega
  obtain ⟨g, eg⟩ : ∃ g, g = Nat.gcd u.natAbs L := ⟨_, rfl⟩
  have g0 : 0 < g := by rw [eg]; exact Nat.gcd_pos_of_pos_right _ L0
  obtain ⟨L', hL'⟩ : g ∣ L := by rw [eg]; exact Nat.gcd_dvd_right _ _
  obtain ⟨u', hu'⟩ : (g : Int) ∣ u := by rw [← Int.dvd_natAbs, Int.natCast_dvd_natCast, eg]; exact Nat.gcd_dvd_left _ _
  rw [← eg] at hd ⊢
  have eq : L / g = L' := by rw [hL', Nat.mul_div_cancel_left _ g0]
  rw [eq] at hd ⊢
  obtain ⟨S', hS'⟩ := hd
  have L'0 : 0 < L' := by
    rcases Nat.eq_zero_or_pos L' with z | z
    · rw [z, Nat.mul_zero] at hL'; omega
    · exact z
  rw [hS', Nat.mul_div_cancel_left _ L'0, hu', hL', Int.mul_tdiv_cancel_left _ (show (g : Int) ≠ 0 by omega)]
  rw [Int.natCast_mul, Int.natCast_mul, show (g : Int) * u' * ((L' : Int) * (S' : Int)) = ((g : Int) * (L' : Int)) * (u' * (S' : Int)) by grind]
  exact Int.mul_tdiv_cancel_left _ (by
    have : 0 < (g : Int) * (L' : Int) := Int.mul_pos (by omega) (by omega)
    omega)
theorem rwP_ext {V W : Nat → Int} (hw : w ≤ 4) (e : ∀ k, k < 4 → k ≠ w → V k = W k) : rwP w V = rwP w W := by
  have f : ∀ t, t < 3 → V (drX w t) = W (drX w t) := fun t ht => e _ (by unfold drX; split <;> omega) (by unfold drX; split <;> omega)
  unfold rwP
  rw [f 0 (by decide), f 1 (by decide), f 2 (by decide)]
  by_cases z : w < 4
  · rw [if_pos z, if_pos z]
  · rw [if_neg z, if_neg z, e 3 (by decide) (by omega)]
end XTELLTO

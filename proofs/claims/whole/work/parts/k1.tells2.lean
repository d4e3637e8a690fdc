/-! ===== THE CLASS: lids, tips, shadows, shapes ===== -/
section XTELLS2
variable {d D : Nat} {h : qH} {R : qRes} {l : List pt4} {bs : List bdy} {sa : Nat → Nat}
theorem sm_iB {z : Int} (h : -999 ≤ z ∧ z ≤ 999) : iB z := by unfold iB; omega
/-- a point lifted -/
def lftP (m : Nat) (p : pt4) (z : Int) : pt4 := if m = 2 then (p.1, p.2.1, z, 0) else (p.1, p.2.1, p.2.2.1, z)
set_option maxRecDepth 100000 in
set_option maxHeartbeats 16000000 in
theorem x_tellLid {i z : Nat} (s : ShX h) (hD : D < 1000) (X : BsX h bs sa) (hi' : i < bs.length) (v : HtX h D l) (hz : z ≤ 999) : ∃ h', (∀ R, qMC (d + 3) 19 [.ref 19, .ref (sa i), .int (iN z)] h R ↔ R = (none, h')) ∧ ChX [20] [(19, 1), (19, 2)] 0 h h' ∧ HtX h' D (tellAll D l ((cnr bs i).map fun p => lftP (dmn bs i) p z)) := by
  obtain ⟨qs, eqs⟩ : ∃ qs, qs = (cnr bs i).map fun p => lftP (dmn bs i) p z := ⟨_, rfl⟩
  have ql : qs.length = (cnr bs i).length := by rw [eqs, List.length_map]
  have qa : ∀ c, c < (cnr bs i).length → qs.getD c z4 = lftP (dmn bs i) ((cnr bs i).getD c z4) z := fun c hc => by
    rw [eqs, List.getD_eq_getElem?_getD, List.getElem?_map, List.getElem?_eq_getElem hc, List.getD_eq_getElem?_getD, List.getElem?_eq_getElem hc]; rfl
  rw [← eqs]
  have go : ∀ (w c : Nat) (g : qH), c + w = (cnr bs i).length → ChX [20] [(19, 1), (19, 2)] 0 h g → HtX g D (tellAll D l (qs.take c)) → ∃ h', (∀ R, qEv (d + 2) 4 qk_19 2 [some (.ref 19), some (.ref (sa i)), some (.int (iN z)), some (.int (iN c))] [] g R ↔ R = (none, h')) ∧ ChX [20] [(19, 1), (19, 2)] 0 h h' ∧ HtX h' D (tellAll D l qs) := by
    intro w
    induction w with
    | zero =>
      intro c g hc cg vg
      have sg := cg.sh
      obtain ⟨p, q, w', e, B, S, P⟩ := (X.ch s cg (by decide) (by decide) (by decide)).at hi'
      obtain ⟨⟨u16, ult, uF⟩, g0, g1, g2, g3, g4, g5, g6⟩ := S.obj
      have n16 := P.2.1.2
      refine ⟨g, fun R => ?_, cg, by rw [show qs.take c = qs from List.take_of_length_le (by omega)] at vg; exact vg⟩
      rw [e19_2]
      simp (disch := first | assumption | omega) only [e19_0, e19_1, e19_3, e19_4, e19_7, e19_10, e19_11, e19_12, e19_15, e19_16, e19_17, e19_18, e19_21, e19_22, e19_23, e19_24, e19_27, e19_28, e19_29, e19_30, e19_33, e19_34, e19_37, e19_40, e19_43, m19, ↓reduceIte, qg_0, qg_1, qg_2, qg_3, qg_4, qg_5, qg_6, qg_7, qg_8, qg_9, qg_10, qg_11, qg_12, qg_13, not_true_eq_false, not_false_eq_true, Nat.reduceBEq, Bool.false_eq_true, ex1, ex3, ex4, exF, qfit_i, qfit_l, qfit_r, qfit_n, qfit_b0, qfit_b1, qcat_i, qcat_r, qcat_n, qcat_l, qroom_0, qroom_c, List.map_cons, List.map_nil, List.sum_cons, List.sum_nil, Nat.reduceAdd, Nat.reduceMul, Nat.reduceLT, Nat.reduceLeDiff, Nat.reduceEqDiff, Nat.reduceSub, decide_true, true_and, and_true, and_self, if_true, if_false, Option.toList_some, Option.toList_none, List.cons_append, List.nil_append, qsL, qlong, List.length_cons, List.length_nil, iN_L, exI, iN_add, iN_mul, iN_le, iN_lt, iN_eq, Nat.le_refl, qfN0, qfN1, uX_16, vX_16, uX_19, vX_19, uX_27, vX_27, uX_30, vX_30, uX_39, vX_39, uX_41, vX_41, uX_43, vX_43, uX_46, vX_46, uX_50, vX_50, uX_53, vX_53, u16, ult, uF, g0, g1, g2, g3, g4, g5, g6, show (cnr bs i).length ≤ c by omega]
    | succ w ih =>
      intro c g hc cg vg
      have sg := cg.sh
      obtain ⟨p, q, w', e, B, S, P⟩ := (X.ch s cg (by decide) (by decide) (by decide)).at hi'
      obtain ⟨⟨u16, ult, uF⟩, g0, g1, g2, g3, g4, g5, g6⟩ := S.obj
      have n16 := P.2.1.2
      have hD' := P.1
      have hc' : c < (cnr bs i).length := by omega
      have a0 : ∀ R, qMC (d + 2) 104 [.ref (sa i), .int (iN c), .int (iN 0)] g R ↔ _ := fun R => x_at S hc' (show 0 < 4 by decide)
      have a1 : ∀ R, qMC (d + 2) 104 [.ref (sa i), .int (iN c), .int (iN 1)] g R ↔ _ := fun R => x_at S hc' (show 1 < 4 by decide)
      have a2 : ∀ R, qMC (d + 2) 104 [.ref (sa i), .int (iN c), .int (iN 2)] g R ↔ _ := fun R => x_at S hc' (show 2 < 4 by decide)
      obtain ⟨g', rt, ct, vt⟩ := x_tellAbove (d := d) (x0 := lP (cnr bs i) c 0) (x1 := lP (cnr bs i) c 1) (x2 := lP (cnr bs i) c 2) (z := z) (m := dmn bs i) sg hD vg (by omega) (sm_iB (P.2.2.1 c hc' 0 (by decide))) (sm_iB (P.2.2.1 c hc' 1 (by decide))) (sm_iB (P.2.2.1 c hc' 2 (by decide))) (by unfold iB; omega)
      have vt' : HtX g' D (addP (tellAll D l (qs.take c)) (prj D (qs.getD c z4))) := by rw [qa c hc']; exact vt
      rw [← tellAll_take (by omega)] at vt'
      obtain ⟨h', r', c', v'⟩ := ih (c + 1) g' (by omega) (cg.trans0 ct) vt'
      refine ⟨h', fun R => ?_, c', v'⟩
      rw [iZ_nat] at rt
      rw [← r' R, e19_2]
      simp (disch := first | assumption | omega) only [e19_0, e19_1, e19_3, e19_4, e19_7, e19_10, e19_11, e19_12, e19_15, e19_16, e19_17, e19_18, e19_21, e19_22, e19_23, e19_24, e19_27, e19_28, e19_29, e19_30, e19_33, e19_34, e19_37, e19_40, e19_43, m19, ↓reduceIte, qg_0, qg_1, qg_2, qg_3, qg_4, qg_5, qg_6, qg_7, qg_8, qg_9, qg_10, qg_11, qg_12, qg_13, not_true_eq_false, not_false_eq_true, Nat.reduceBEq, Bool.false_eq_true, ex1, ex3, ex4, exF, qfit_i, qfit_l, qfit_r, qfit_n, qfit_b0, qfit_b1, qcat_i, qcat_r, qcat_n, qcat_l, qroom_0, qroom_c, List.map_cons, List.map_nil, List.sum_cons, List.sum_nil, Nat.reduceAdd, Nat.reduceMul, Nat.reduceLT, Nat.reduceLeDiff, Nat.reduceEqDiff, Nat.reduceSub, decide_true, true_and, and_true, and_self, if_true, if_false, Option.toList_some, Option.toList_none, List.cons_append, List.nil_append, qsL, qlong, List.length_cons, List.length_nil, iN_L, exI, iN_add, iN_mul, iN_le, iN_lt, iN_eq, Nat.le_refl, qfN0, qfN1, uX_16, vX_16, uX_19, vX_19, uX_27, vX_27, uX_30, vX_30, uX_39, vX_39, uX_41, vX_41, uX_43, vX_43, uX_46, vX_46, uX_50, vX_50, uX_53, vX_53, u16, ult, uF, g0, g1, g2, g3, g4, g5, g6, show ¬ (cnr bs i).length ≤ c by omega, a0, a1, a2, rt]
  obtain ⟨h', r', c', v'⟩ := go (cnr bs i).length 0 h (by omega) (ChX.refl s) v
  refine ⟨h', fun R => ?_, c', v'⟩
  rw [← r' R]
  simp (disch := first | assumption | omega) only [e19_0, e19_1, e19_3, e19_4, e19_7, e19_10, e19_11, e19_12, e19_15, e19_16, e19_17, e19_18, e19_21, e19_22, e19_23, e19_24, e19_27, e19_28, e19_29, e19_30, e19_33, e19_34, e19_37, e19_40, e19_43, m19, ↓reduceIte, qg_0, qg_1, qg_2, qg_3, qg_4, qg_5, qg_6, qg_7, qg_8, qg_9, qg_10, qg_11, qg_12, qg_13, not_true_eq_false, not_false_eq_true, Nat.reduceBEq, Bool.false_eq_true, ex1, ex3, ex4, exF, qfit_i, qfit_l, qfit_r, qfit_n, qfit_b0, qfit_b1, qcat_i, qcat_r, qcat_n, qcat_l, qroom_0, qroom_c, List.map_cons, List.map_nil, List.sum_cons, List.sum_nil, Nat.reduceAdd, Nat.reduceMul, Nat.reduceLT, Nat.reduceLeDiff, Nat.reduceEqDiff, Nat.reduceSub, decide_true, true_and, and_true, and_self, if_true, if_false, Option.toList_some, Option.toList_none, List.cons_append, List.nil_append, qsL, qlong, List.length_cons, List.length_nil, iN_L, exI, iN_add, iN_mul, iN_le, iN_lt, iN_eq, Nat.le_refl, qfN0, qfN1, uX_16, vX_16, uX_19, vX_19, uX_27, vX_27, uX_30, vX_30, uX_39, vX_39, uX_41, vX_41, uX_43, vX_43, uX_46, vX_46, uX_50, vX_50, uX_53, vX_53]
/-- the sum of the first n corners -/
def smC (cs : List pt4) (n k : Nat) : Int := sumZ (fun c => lP cs c k) n
set_option maxRecDepth 100000 in
set_option maxHeartbeats 16000000 in
theorem x_tellTip {i n : Nat} {z : Int} (s : ShX h) (hD : D < 1000) (X : BsX h bs sa) (hi' : i < bs.length) (v : HtX h D l) (hz : -999 ≤ z ∧ z ≤ 999) (hn : n ≤ (cnr bs i).length) : ∃ h', (∀ R, qMC (d + 3) 20 [.ref 19, .ref (sa i), .int (iN n), .int (iZ z)] h R ↔ R = (none, h')) ∧ ChX [20] [(19, 1), (19, 2)] 0 h h' ∧ HtX h' D (addP l (prj D (lftP (dmn bs i) (smC (cnr bs i) n 0, smC (cnr bs i) n 1, smC (cnr bs i) n 2, 0) z))) := by
  obtain ⟨p, q, w, e, B, S, P⟩ := X.at hi'
  obtain ⟨⟨u16, ult, uF⟩, g0, g1, g2, g3, g4, g5, g6⟩ := S.obj
  have n16 := P.2.1.2
  have hD' := P.1
  have sb : ∀ k, k < 4 → iB (smC (cnr bs i) n k) := fun k hk => by
    have := sumZ_b (f := fun c => lP (cnr bs i) c k) (B := 999) (m := n) fun c hc => P.2.2.1 c (by omega) k hk
    unfold smC iB
    omega
  obtain ⟨h', rt, c', v'⟩ := x_tellAbove (d := d) (x0 := smC (cnr bs i) n 0) (x1 := smC (cnr bs i) n 1) (x2 := smC (cnr bs i) n 2) (z := z) (m := dmn bs i) s hD v (by omega) (sb 0 (by decide)) (sb 1 (by decide)) (sb 2 (by decide)) (sm_iB hz)
  refine ⟨h', fun R => ?_, c', v'⟩
  have r0 : qMC (d + 3) 20 [.ref 19, .ref (sa i), .int (iN n), .int (iZ z)] h R ↔ qEv (d + 2) 4 qk_20 12 [some (.ref 19), some (.ref (sa i)), some (.int (iN n)), some (.int (iZ z)), some (.int (iZ (smC (cnr bs i) 0 0))), some (.int (iZ (smC (cnr bs i) 0 1))), some (.int (iZ (smC (cnr bs i) 0 2))), some (.int (iN 0))] [] h R := by
    rw [show smC (cnr bs i) 0 0 = 0 from rfl, show smC (cnr bs i) 0 1 = 0 from rfl, show smC (cnr bs i) 0 2 = 0 from rfl, show iZ 0 = iN 0 from rfl]
    simp (disch := first | assumption | omega) only [e20_0, e20_1, e20_3, e20_4, e20_6, e20_7, e20_9, e20_10, e20_14, e20_15, e20_18, e20_20, e20_21, e20_24, e20_27, e20_29, e20_30, e20_32, e20_33, e20_36, e20_37, e20_39, e20_41, e20_42, e20_44, e20_45, e20_48, e20_49, e20_51, e20_53, e20_54, e20_56, e20_57, e20_60, e20_61, e20_63, e20_66, e20_69, e20_70, e20_71, e20_74, e20_76, e20_78, e20_80, e20_81, e20_84, m20, ↓reduceIte, qg_0, qg_1, qg_2, qg_3, qg_4, qg_5, qg_6, qg_7, qg_8, qg_9, qg_10, qg_11, qg_12, qg_13, not_true_eq_false, not_false_eq_true, Nat.reduceBEq, Bool.false_eq_true, ex1, ex3, ex4, exF, qfit_i, qfit_l, qfit_r, qfit_n, qfit_b0, qfit_b1, qcat_i, qcat_r, qcat_n, qcat_l, qroom_0, qroom_c, List.map_cons, List.map_nil, List.sum_cons, List.sum_nil, Nat.reduceAdd, Nat.reduceMul, Nat.reduceLT, Nat.reduceLeDiff, Nat.reduceEqDiff, Nat.reduceSub, decide_true, true_and, and_true, and_self, if_true, if_false, Option.toList_some, Option.toList_none, List.cons_append, List.nil_append, qsL, qlong, List.length_cons, List.length_nil, iN_L, exI, iN_add, iN_mul, iN_le, iN_lt, iN_eq, Nat.le_refl, qfN0, qfN1, uX_16, vX_16, uX_19, vX_19, uX_27, vX_27, uX_30, vX_30, uX_39, vX_39, uX_41, vX_41, uX_43, vX_43, uX_46, vX_46, uX_50, vX_50, uX_53, vX_53]
  rw [r0]
  refine Iff.trans (loop_up (n := n) (L := fun c => [some (.ref 19), some (.ref (sa i)), some (.int (iN n)), some (.int (iZ z)), some (.int (iZ (smC (cnr bs i) c 0))), some (.int (iZ (smC (cnr bs i) c 1))), some (.int (iZ (smC (cnr bs i) c 2))), some (.int (iN c))]) (H := fun _ => h) ?_) ?_
  · intro c hc
    try dsimp only
    have hc' : c < (cnr bs i).length := by omega
    have a0 : ∀ R, qMC (d + 2) 104 [.ref (sa i), .int (iN c), .int (iN 0)] h R ↔ _ := fun R => x_at S hc' (show 0 < 4 by decide)
    have a1 : ∀ R, qMC (d + 2) 104 [.ref (sa i), .int (iN c), .int (iN 1)] h R ↔ _ := fun R => x_at S hc' (show 1 < 4 by decide)
    have a2 : ∀ R, qMC (d + 2) 104 [.ref (sa i), .int (iN c), .int (iN 2)] h R ↔ _ := fun R => x_at S hc' (show 2 < 4 by decide)
    rw [e20_12, show smC (cnr bs i) (c + 1) 0 = smC (cnr bs i) c 0 + lP (cnr bs i) c 0 from rfl, show smC (cnr bs i) (c + 1) 1 = smC (cnr bs i) c 1 + lP (cnr bs i) c 1 from rfl, show smC (cnr bs i) (c + 1) 2 = smC (cnr bs i) c 2 + lP (cnr bs i) c 2 from rfl]
    simp (disch := first | assumption | omega) only [e20_0, e20_1, e20_3, e20_4, e20_6, e20_7, e20_9, e20_10, e20_14, e20_15, e20_18, e20_20, e20_21, e20_24, e20_27, e20_29, e20_30, e20_32, e20_33, e20_36, e20_37, e20_39, e20_41, e20_42, e20_44, e20_45, e20_48, e20_49, e20_51, e20_53, e20_54, e20_56, e20_57, e20_60, e20_61, e20_63, e20_66, e20_69, e20_70, e20_71, e20_74, e20_76, e20_78, e20_80, e20_81, e20_84, m20, ↓reduceIte, qg_0, qg_1, qg_2, qg_3, qg_4, qg_5, qg_6, qg_7, qg_8, qg_9, qg_10, qg_11, qg_12, qg_13, not_true_eq_false, not_false_eq_true, Nat.reduceBEq, Bool.false_eq_true, ex1, ex3, ex4, exF, qfit_i, qfit_l, qfit_r, qfit_n, qfit_b0, qfit_b1, qcat_i, qcat_r, qcat_n, qcat_l, qroom_0, qroom_c, List.map_cons, List.map_nil, List.sum_cons, List.sum_nil, Nat.reduceAdd, Nat.reduceMul, Nat.reduceLT, Nat.reduceLeDiff, Nat.reduceEqDiff, Nat.reduceSub, decide_true, true_and, and_true, and_self, if_true, if_false, Option.toList_some, Option.toList_none, List.cons_append, List.nil_append, qsL, qlong, List.length_cons, List.length_nil, iN_L, exI, iN_add, iN_mul, iN_le, iN_lt, iN_eq, Nat.le_refl, qfN0, qfN1, uX_16, vX_16, uX_19, vX_19, uX_27, vX_27, uX_30, vX_30, uX_39, vX_39, uX_41, vX_41, uX_43, vX_43, uX_46, vX_46, uX_50, vX_50, uX_53, vX_53, show ¬ n ≤ c by omega, u16, ult, uF, g0, g1, g2, g3, g4, g5, g6, show ¬ (cnr bs i).length ≤ c by omega, a0, a1, a2, iZ_add]
  · try dsimp only
    rw [e20_12]
    simp (disch := first | assumption | omega) only [e20_0, e20_1, e20_3, e20_4, e20_6, e20_7, e20_9, e20_10, e20_14, e20_15, e20_18, e20_20, e20_21, e20_24, e20_27, e20_29, e20_30, e20_32, e20_33, e20_36, e20_37, e20_39, e20_41, e20_42, e20_44, e20_45, e20_48, e20_49, e20_51, e20_53, e20_54, e20_56, e20_57, e20_60, e20_61, e20_63, e20_66, e20_69, e20_70, e20_71, e20_74, e20_76, e20_78, e20_80, e20_81, e20_84, m20, ↓reduceIte, qg_0, qg_1, qg_2, qg_3, qg_4, qg_5, qg_6, qg_7, qg_8, qg_9, qg_10, qg_11, qg_12, qg_13, not_true_eq_false, not_false_eq_true, Nat.reduceBEq, Bool.false_eq_true, ex1, ex3, ex4, exF, qfit_i, qfit_l, qfit_r, qfit_n, qfit_b0, qfit_b1, qcat_i, qcat_r, qcat_n, qcat_l, qroom_0, qroom_c, List.map_cons, List.map_nil, List.sum_cons, List.sum_nil, Nat.reduceAdd, Nat.reduceMul, Nat.reduceLT, Nat.reduceLeDiff, Nat.reduceEqDiff, Nat.reduceSub, decide_true, true_and, and_true, and_self, if_true, if_false, Option.toList_some, Option.toList_none, List.cons_append, List.nil_append, qsL, qlong, List.length_cons, List.length_nil, iN_L, exI, iN_add, iN_mul, iN_le, iN_lt, iN_eq, Nat.le_refl, qfN0, qfN1, uX_16, vX_16, uX_19, vX_19, uX_27, vX_27, uX_30, vX_30, uX_39, vX_39, uX_41, vX_41, uX_43, vX_43, uX_46, vX_46, uX_50, vX_50, uX_53, vX_53, u16, ult, uF, g0, g1, g2, g3, g4, g5, g6, rt]
set_option maxRecDepth 100000 in
set_option maxHeartbeats 16000000 in
theorem x_tellUnit {a : Nat} {z : Int} (s : ShX h) (hD : D < 1000) (v : HtX h D l) (ha : a < 4) (hz : -999 ≤ z ∧ z ≤ 999) : ∃ h', (∀ R, qMC (d + 2) 22 [.ref 19, .int (iN a), .int (iZ z)] h R ↔ R = (none, h')) ∧ ChX [20] [(19, 1), (19, 2)] 0 h h' ∧ HtX h' D (addP l (prj D (axP a z))) := by
  have b0 : iB 0 := by unfold iB; omega
  have hq : ptB (axP a z) := fun k hk => by
    unfold axP
    match k, hk with
    | 0, _ => show iB (if a = 0 then z else 0); split; exact sm_iB hz; exact b0
    | 1, _ => show iB (if a = 1 then z else 0); split; exact sm_iB hz; exact b0
    | 2, _ => show iB (if a = 2 then z else 0); split; exact sm_iB hz; exact b0
    | 3, _ => show iB (if a = 3 then z else 0); split; exact sm_iB hz; exact b0
  obtain ⟨h', r', c', v'⟩ := x_tell (d := d) (q := axP a z) s hD v hq
  refine ⟨h', fun R => ?_, c', v'⟩
  rcases (show a = 0 ∨ a = 1 ∨ a = 2 ∨ a = 3 by omega) with rfl | rfl | rfl | rfl
  · have r2 : ∀ R, qMC (d + 1) 14 [.ref 19, .int (iZ z), .int (iN 0), .int (iN 0), .int (iN 0)] h R ↔ R = (none, h') := r'
    simp (disch := first | assumption | omega) only [e22_0, e22_1, e22_2, e22_5, e22_6, e22_9, e22_10, e22_11, e22_12, e22_15, e22_16, e22_19, e22_20, e22_21, e22_22, e22_25, e22_26, e22_29, e22_30, e22_31, e22_32, e22_35, e22_36, e22_39, e22_40, e22_43, m22, ↓reduceIte, qg_0, qg_1, qg_2, qg_3, qg_4, qg_5, qg_6, qg_7, qg_8, qg_9, qg_10, qg_11, qg_12, qg_13, not_true_eq_false, not_false_eq_true, Nat.reduceBEq, Bool.false_eq_true, ex1, ex3, ex4, exF, qfit_i, qfit_l, qfit_r, qfit_n, qfit_b0, qfit_b1, qcat_i, qcat_r, qcat_n, qcat_l, qroom_0, qroom_c, List.map_cons, List.map_nil, List.sum_cons, List.sum_nil, Nat.reduceAdd, Nat.reduceMul, Nat.reduceLT, Nat.reduceLeDiff, Nat.reduceEqDiff, Nat.reduceSub, decide_true, true_and, and_true, and_self, if_true, if_false, Option.toList_some, Option.toList_none, List.cons_append, List.nil_append, qsL, qlong, List.length_cons, List.length_nil, iN_L, exI, iN_add, iN_mul, iN_le, iN_lt, iN_eq, Nat.le_refl, qfN0, qfN1, uX_16, vX_16, uX_19, vX_19, uX_27, vX_27, uX_30, vX_30, uX_39, vX_39, uX_41, vX_41, uX_43, vX_43, uX_46, vX_46, uX_50, vX_50, uX_53, vX_53, r2, iN10]
  · have r2 : ∀ R, qMC (d + 1) 14 [.ref 19, .int (iN 0), .int (iZ z), .int (iN 0), .int (iN 0)] h R ↔ R = (none, h') := r'
    simp (disch := first | assumption | omega) only [e22_0, e22_1, e22_2, e22_5, e22_6, e22_9, e22_10, e22_11, e22_12, e22_15, e22_16, e22_19, e22_20, e22_21, e22_22, e22_25, e22_26, e22_29, e22_30, e22_31, e22_32, e22_35, e22_36, e22_39, e22_40, e22_43, m22, ↓reduceIte, qg_0, qg_1, qg_2, qg_3, qg_4, qg_5, qg_6, qg_7, qg_8, qg_9, qg_10, qg_11, qg_12, qg_13, not_true_eq_false, not_false_eq_true, Nat.reduceBEq, Bool.false_eq_true, ex1, ex3, ex4, exF, qfit_i, qfit_l, qfit_r, qfit_n, qfit_b0, qfit_b1, qcat_i, qcat_r, qcat_n, qcat_l, qroom_0, qroom_c, List.map_cons, List.map_nil, List.sum_cons, List.sum_nil, Nat.reduceAdd, Nat.reduceMul, Nat.reduceLT, Nat.reduceLeDiff, Nat.reduceEqDiff, Nat.reduceSub, decide_true, true_and, and_true, and_self, if_true, if_false, Option.toList_some, Option.toList_none, List.cons_append, List.nil_append, qsL, qlong, List.length_cons, List.length_nil, iN_L, exI, iN_add, iN_mul, iN_le, iN_lt, iN_eq, Nat.le_refl, qfN0, qfN1, uX_16, vX_16, uX_19, vX_19, uX_27, vX_27, uX_30, vX_30, uX_39, vX_39, uX_41, vX_41, uX_43, vX_43, uX_46, vX_46, uX_50, vX_50, uX_53, vX_53, r2, iN10]
  · have r2 : ∀ R, qMC (d + 1) 14 [.ref 19, .int (iN 0), .int (iN 0), .int (iZ z), .int (iN 0)] h R ↔ R = (none, h') := r'
    simp (disch := first | assumption | omega) only [e22_0, e22_1, e22_2, e22_5, e22_6, e22_9, e22_10, e22_11, e22_12, e22_15, e22_16, e22_19, e22_20, e22_21, e22_22, e22_25, e22_26, e22_29, e22_30, e22_31, e22_32, e22_35, e22_36, e22_39, e22_40, e22_43, m22, ↓reduceIte, qg_0, qg_1, qg_2, qg_3, qg_4, qg_5, qg_6, qg_7, qg_8, qg_9, qg_10, qg_11, qg_12, qg_13, not_true_eq_false, not_false_eq_true, Nat.reduceBEq, Bool.false_eq_true, ex1, ex3, ex4, exF, qfit_i, qfit_l, qfit_r, qfit_n, qfit_b0, qfit_b1, qcat_i, qcat_r, qcat_n, qcat_l, qroom_0, qroom_c, List.map_cons, List.map_nil, List.sum_cons, List.sum_nil, Nat.reduceAdd, Nat.reduceMul, Nat.reduceLT, Nat.reduceLeDiff, Nat.reduceEqDiff, Nat.reduceSub, decide_true, true_and, and_true, and_self, if_true, if_false, Option.toList_some, Option.toList_none, List.cons_append, List.nil_append, qsL, qlong, List.length_cons, List.length_nil, iN_L, exI, iN_add, iN_mul, iN_le, iN_lt, iN_eq, Nat.le_refl, qfN0, qfN1, uX_16, vX_16, uX_19, vX_19, uX_27, vX_27, uX_30, vX_30, uX_39, vX_39, uX_41, vX_41, uX_43, vX_43, uX_46, vX_46, uX_50, vX_50, uX_53, vX_53, r2, iN10]
  · have r2 : ∀ R, qMC (d + 1) 14 [.ref 19, .int (iN 0), .int (iN 0), .int (iN 0), .int (iZ z)] h R ↔ R = (none, h') := r'
    simp (disch := first | assumption | omega) only [e22_0, e22_1, e22_2, e22_5, e22_6, e22_9, e22_10, e22_11, e22_12, e22_15, e22_16, e22_19, e22_20, e22_21, e22_22, e22_25, e22_26, e22_29, e22_30, e22_31, e22_32, e22_35, e22_36, e22_39, e22_40, e22_43, m22, ↓reduceIte, qg_0, qg_1, qg_2, qg_3, qg_4, qg_5, qg_6, qg_7, qg_8, qg_9, qg_10, qg_11, qg_12, qg_13, not_true_eq_false, not_false_eq_true, Nat.reduceBEq, Bool.false_eq_true, ex1, ex3, ex4, exF, qfit_i, qfit_l, qfit_r, qfit_n, qfit_b0, qfit_b1, qcat_i, qcat_r, qcat_n, qcat_l, qroom_0, qroom_c, List.map_cons, List.map_nil, List.sum_cons, List.sum_nil, Nat.reduceAdd, Nat.reduceMul, Nat.reduceLT, Nat.reduceLeDiff, Nat.reduceEqDiff, Nat.reduceSub, decide_true, true_and, and_true, and_self, if_true, if_false, Option.toList_some, Option.toList_none, List.cons_append, List.nil_append, qsL, qlong, List.length_cons, List.length_nil, iN_L, exI, iN_add, iN_mul, iN_le, iN_lt, iN_eq, Nat.le_refl, qfN0, qfN1, uX_16, vX_16, uX_19, vX_19, uX_27, vX_27, uX_30, vX_30, uX_39, vX_39, uX_41, vX_41, uX_43, vX_43, uX_46, vX_46, uX_50, vX_50, uX_53, vX_53, r2, iN10]
end XTELLS2

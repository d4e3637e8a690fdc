/-! ===== THE CLASS: keepHull, body, both, shadow ===== -/
section XBODY
variable {d D : Nat} {h : qH} {R : qRes} {l : List pt4} {bs : List bdy} {sa : Nat → Nat}
def bdA : List Nat := [17, 20, 21, 22, 23, 24, 25, 26]
def bdJ : List (Nat × Nat) := [(16, 1), (19, 1), (19, 2), (19, 3), (19, 6)]
def bdK : List (Nat × Nat) := [(16, 3), (16, 1), (19, 1), (19, 2), (19, 3), (19, 6)]
theorem bdA_lt : ∀ x ∈ bdA, x < 97 := by decide
/-- a body more, or it would be flat -/
def kepR (bs : List bdy) (l : List pt4) (D : Nat) (sc v : Int32) (bs' : List bdy) : Prop := (¬ solid l D ∧ v = -1003 ∧ bs' = bs) ∨ (solid l D ∧ v = iN bs.length ∧ bs' = bs ++ [(l, D, sc)])
theorem SoX.lt {a i : Nat} (S : SoX h a bs i) : a < h.2.1 := by
  obtain ⟨-, ⟨p, q, w, e, B, S', -⟩, -⟩ := S
  exact S'.1.1.1.2
set_option maxRecDepth 100000 in
set_option maxHeartbeats 16000000 in
/-- find, make, keep -/
theorem x_mk3 {sc : Int32} (s : ShX h) (X : BsX h bs sa) (v : HtX h D l) (ok : okP l D) (so : solid l D) (hb : bs.length < 24) (hfx : ∃ f S Q Q', 0 < f ∧ HfX h f S Q ∧ facL l D f S Q' ∧ ∀ j, j < f → plBd D (Q j) ∧ ∃ v : Int, 0 < v ∧ ∀ t, t < 5 → Q j t = v * Q' j t) : ∃ h1 h' a sa', (∀ R, qMC (d + 6) 34 [.ref 19, .int sc] h R ↔ R = (some (.ref a), h1)) ∧ (∀ R, qMC (d + 6) 182 [.ref 16, .ref a] h1 R ↔ R = (some (.int (iN bs.length)), h')) ∧ ShX h1 ∧ ChX bdA bdJ 16 h h' ∧ BsX h' (bs ++ [(l, D, sc)]) sa' := by
  obtain ⟨f, S, Q, Q', h0f, hf1, fl, pq⟩ := hfx
  obtain ⟨h1, a, r1, c1, la, so1⟩ := x_make (d := d) (sc := sc) s v ok h0f hf1 fl pq
  have s1 := c1.sh
  have X1 := X.ch s c1 (by decide) (by decide) (by decide)
  obtain ⟨h2, sa', r2, c2, X2⟩ := x_keep (d := d + 5) (a := a) (b := (l, D, sc)) s1 X1 hb ⟨ok, so⟩ (so1 bs) (fun i hi' e => by
    have := (X.2.2.2 i hi').2.2.lt
    omega)
  exact ⟨h1, h2, a, sa', r1, r2, s1, (c1.mono (A' := bdA) (J' := bdJ) (by decide) (fun _ z => by cases z) (Nat.le_refl _)).trans (c2.mono (A' := bdA) (J' := bdJ) (by decide) (by decide) (Nat.le_refl 0)), X2⟩
set_option maxRecDepth 100000 in
set_option maxHeartbeats 16000000 in
theorem x_keepHull {sc v : Int32} {bs' : List bdy} (s : ShX h) (X : BsX h bs sa) (ht : HtX h D l) (ok : okP l D) (hb : bs.length < 24) (hv : kepR bs l D sc v bs') : ∃ h' sa', (∀ R, qMC (d + 7) 183 [.ref 16, .int sc] h R ↔ R = (some (.int v), h')) ∧ ChX bdA bdJ 16 h h' ∧ BsX h' bs' sa' := by
  obtain ⟨h1, r1, c1, z1⟩ := x_findFacets (d := d) s ht ok
  have s1 := c1.sh
  have X1 := X.ch s c1 (by decide) (by decide) (by decide)
  have t1 := ht.ch c1 s (by decide) (by decide) (by decide) (by decide)
  have c1' : ChX bdA bdJ 0 h h1 := c1.mono (by decide) (by decide) (Nat.le_refl _)
  rcases hv with ⟨ns, rfl, eb⟩ | ⟨so, rfl, eb⟩
  · rw [tB_f ns, bN_f] at r1
    refine ⟨h1, sa, fun R => ?_, c1'.mono (fun _ z => z) (fun _ z => z) (by decide), by rw [eb]; exact X1⟩
    simp (disch := first | assumption | omega) only [e183_0, e183_1, e183_4, e183_7, e183_10, e183_11, e183_12, e183_15, e183_16, e183_19, e183_22, e183_25, e183_28, m183, ↓reduceIte, qg_0, qg_1, qg_2, qg_3, qg_4, qg_5, qg_6, qg_7, qg_8, qg_9, qg_10, qg_11, qg_12, qg_13, not_true_eq_false, not_false_eq_true, Nat.reduceBEq, Bool.false_eq_true, ex1, ex3, ex4, exF, qfit_i, qfit_l, qfit_r, qfit_n, qfit_b0, qfit_b1, qcat_i, qcat_r, qcat_n, qcat_l, qroom_0, qroom_c, List.map_cons, List.map_nil, List.sum_cons, List.sum_nil, Nat.reduceAdd, Nat.reduceMul, Nat.reduceLT, Nat.reduceLeDiff, Nat.reduceEqDiff, Nat.reduceSub, decide_true, true_and, and_true, and_self, if_true, if_false, Option.toList_some, Option.toList_none, List.cons_append, List.nil_append, qsL, qlong, List.length_cons, List.length_nil, iN_L, exI, iN_add, iN_mul, iN_le, iN_lt, iN_eq, Nat.le_refl, qfN0, qfN1, uX_16, vX_16, uX_19, vX_19, uX_27, vX_27, uX_30, vX_30, uX_39, vX_39, uX_41, vX_41, uX_43, vX_43, uX_46, vX_46, uX_50, vX_50, uX_53, vX_53, gX_16_4, r1]
  · rw [tB_t so, bN_t] at r1
    obtain ⟨h2, h3, a, sa', r2, r3, s2, c3, X3⟩ := x_mk3 (d := d) (sc := sc) s1 X1 t1 ok so hb (z1 so)
    refine ⟨h3, sa', fun R => ?_, (c1'.trans c3).mono (fun _ z => z) (fun _ z => z) (by decide), by rw [eb]; exact X3⟩
    simp (disch := first | assumption | omega) only [e183_0, e183_1, e183_4, e183_7, e183_10, e183_11, e183_12, e183_15, e183_16, e183_19, e183_22, e183_25, e183_28, m183, ↓reduceIte, qg_0, qg_1, qg_2, qg_3, qg_4, qg_5, qg_6, qg_7, qg_8, qg_9, qg_10, qg_11, qg_12, qg_13, not_true_eq_false, not_false_eq_true, Nat.reduceBEq, Bool.false_eq_true, ex1, ex3, ex4, exF, qfit_i, qfit_l, qfit_r, qfit_n, qfit_b0, qfit_b1, qcat_i, qcat_r, qcat_n, qcat_l, qroom_0, qroom_c, List.map_cons, List.map_nil, List.sum_cons, List.sum_nil, Nat.reduceAdd, Nat.reduceMul, Nat.reduceLT, Nat.reduceLeDiff, Nat.reduceEqDiff, Nat.reduceSub, decide_true, true_and, and_true, and_self, if_true, if_false, Option.toList_some, Option.toList_none, List.cons_append, List.nil_append, qsL, qlong, List.length_cons, List.length_nil, iN_L, exI, iN_add, iN_mul, iN_le, iN_lt, iN_eq, Nat.le_refl, qfN0, qfN1, uX_16, vX_16, uX_19, vX_19, uX_27, vX_27, uX_30, vX_30, uX_39, vX_39, uX_41, vX_41, uX_43, vX_43, uX_46, vX_46, uX_50, vX_50, uX_53, vX_53, gX_16_4, r1, r2, r3]
set_option maxRecDepth 100000 in
theorem x_isDim1 {D : Nat} (hD : 2 ≤ D ∧ D ≤ 4) : qMC (d + 1) 176 [.int (iN D)] h R ↔ R = (some (.int (iN 1)), h) := by
  simp (disch := first | assumption | omega) only [e176_0, e176_1, e176_2, e176_5, e176_6, e176_7, e176_10, e176_11, e176_14, e176_15, m176, ↓reduceIte, qg_0, qg_1, qg_2, qg_3, qg_4, qg_5, qg_6, qg_7, qg_8, qg_9, qg_10, qg_11, qg_12, qg_13, not_true_eq_false, not_false_eq_true, Nat.reduceBEq, Bool.false_eq_true, ex1, ex3, ex4, exF, qfit_i, qfit_l, qfit_r, qfit_n, qfit_b0, qfit_b1, qcat_i, qcat_r, qcat_n, qcat_l, qroom_0, qroom_c, List.map_cons, List.map_nil, List.sum_cons, List.sum_nil, Nat.reduceAdd, Nat.reduceMul, Nat.reduceLT, Nat.reduceLeDiff, Nat.reduceEqDiff, Nat.reduceSub, decide_true, true_and, and_true, and_self, if_true, if_false, Option.toList_some, Option.toList_none, List.cons_append, List.nil_append, qsL, qlong, List.length_cons, List.length_nil, iN_L, exI, iN_add, iN_mul, iN_le, iN_lt, iN_eq, Nat.le_refl, qfN0, qfN1, uX_16, vX_16, uX_19, vX_19, uX_27, vX_27, uX_30, vX_30, uX_39, vX_39, uX_41, vX_41, uX_43, vX_43, uX_46, vX_46, uX_50, vX_50, uX_53, vX_53, show ¬ D < 2 by omega, show ¬ 4 < D by omega]
set_option maxRecDepth 100000 in
theorem x_isDim0 {x : Int32} (hx : ¬ ∃ D : Nat, (2 ≤ D ∧ D ≤ 4) ∧ x = iN D) : qMC (d + 1) 176 [.int x] h R ↔ R = (some (.int (iN 0)), h) := by
  by_cases q1 : x < iN 2
  · simp (disch := first | assumption | omega) only [e176_0, e176_1, e176_2, e176_5, e176_6, e176_7, e176_10, e176_11, e176_14, e176_15, m176, ↓reduceIte, qg_0, qg_1, qg_2, qg_3, qg_4, qg_5, qg_6, qg_7, qg_8, qg_9, qg_10, qg_11, qg_12, qg_13, not_true_eq_false, not_false_eq_true, Nat.reduceBEq, Bool.false_eq_true, ex1, ex3, ex4, exF, qfit_i, qfit_l, qfit_r, qfit_n, qfit_b0, qfit_b1, qcat_i, qcat_r, qcat_n, qcat_l, qroom_0, qroom_c, List.map_cons, List.map_nil, List.sum_cons, List.sum_nil, Nat.reduceAdd, Nat.reduceMul, Nat.reduceLT, Nat.reduceLeDiff, Nat.reduceEqDiff, Nat.reduceSub, decide_true, true_and, and_true, and_self, if_true, if_false, Option.toList_some, Option.toList_none, List.cons_append, List.nil_append, qsL, qlong, List.length_cons, List.length_nil, iN_L, exI, iN_add, iN_mul, iN_le, iN_lt, iN_eq, Nat.le_refl, qfN0, qfN1, uX_16, vX_16, uX_19, vX_19, uX_27, vX_27, uX_30, vX_30, uX_39, vX_39, uX_41, vX_41, uX_43, vX_43, uX_46, vX_46, uX_50, vX_50, uX_53, vX_53, q1]
  · have q2 : iN 4 < x := by
      rw [Int32.lt_iff_toInt_lt, iN_int (by omega)]
      rw [Int32.lt_iff_toInt_lt, iN_int (by omega)] at q1
      apply Classical.byContradiction
      intro z
      exact hx ⟨x.toInt.toNat, by omega, by rw [← Int32.toInt_inj, iN_int (by omega)]; omega⟩
    simp (disch := first | assumption | omega) only [e176_0, e176_1, e176_2, e176_5, e176_6, e176_7, e176_10, e176_11, e176_14, e176_15, m176, ↓reduceIte, qg_0, qg_1, qg_2, qg_3, qg_4, qg_5, qg_6, qg_7, qg_8, qg_9, qg_10, qg_11, qg_12, qg_13, not_true_eq_false, not_false_eq_true, Nat.reduceBEq, Bool.false_eq_true, ex1, ex3, ex4, exF, qfit_i, qfit_l, qfit_r, qfit_n, qfit_b0, qfit_b1, qcat_i, qcat_r, qcat_n, qcat_l, qroom_0, qroom_c, List.map_cons, List.map_nil, List.sum_cons, List.sum_nil, Nat.reduceAdd, Nat.reduceMul, Nat.reduceLT, Nat.reduceLeDiff, Nat.reduceEqDiff, Nat.reduceSub, decide_true, true_and, and_true, and_self, if_true, if_false, Option.toList_some, Option.toList_none, List.cons_append, List.nil_append, qsL, qlong, List.length_cons, List.length_nil, iN_L, exI, iN_add, iN_mul, iN_le, iN_lt, iN_eq, Nat.le_refl, qfN0, qfN1, uX_16, vX_16, uX_19, vX_19, uX_27, vX_27, uX_30, vX_30, uX_39, vX_39, uX_41, vX_41, uX_43, vX_43, uX_46, vX_46, uX_50, vX_50, uX_53, vX_53, q1, q2]
/-- the answer of body -/
def bodR (bs : List bdy) (dr : List pt4) (x v : Int32) (bs' : List bdy) (dr' : List pt4) : Prop := ((¬ ∃ D : Nat, (2 ≤ D ∧ D ≤ 4) ∧ x = iN D) ∧ v = -1002 ∧ bs' = bs ∧ dr' = dr) ∨ ∃ D : Nat, ((2 ≤ D ∧ D ≤ 4) ∧ x = iN D) ∧ ((¬ solid (tellAll D [] dr) D ∧ v = -1003 ∧ bs' = bs ∧ dr' = dr) ∨ (solid (tellAll D [] dr) D ∧ bs.length = 24 ∧ v = -1004 ∧ bs' = bs ∧ dr' = dr) ∨ (solid (tellAll D [] dr) D ∧ bs.length < 24 ∧ v = iN bs.length ∧ bs' = bs ++ [(tellAll D [] dr, D, 1)] ∧ dr' = []))
theorem okP_tell {dr : List pt4} (hD : 2 ≤ D ∧ D ≤ 4) (sm : smP dr) (hl : dr.length ≤ 16) : okP (tellAll D [] dr) D := by
  obtain ⟨a, b, c⟩ := tellAll_ok (D := D) dr [] List.nodup_nil (fun r hr => absurd hr List.not_mem_nil) (fun q hq => absurd hq List.not_mem_nil) sm
  have := tellAll_len D dr []
  exact ⟨c, a, by rw [List.length_nil] at this; omega, b, hD⟩
theorem DrX.ch {A : List Nat} {J : List (Nat × Nat)} {k : Nat} {h' : qH} {dr : List pt4} (v : DrX h dr) (c : ChX A J k h h') (s : ShX h) (h1 : 18 ∉ A) (h2 : (16, 3) ∉ J) : DrX h' dr := by
  obtain ⟨v1, v2, v3⟩ := v
  refine ⟨v1, (c.xi (by decide) h2).trans v2, fun p hp t ht => ?_⟩
  rw [c.hi h1 (by decide) (s.lt (by decide))]
  exact v3 p hp t ht
theorem DrX.sm {dr : List pt4} (v : DrX h dr) : smP dr := by
  intro q hq t ht
  obtain ⟨p, hp, e⟩ := List.getElem_of_mem hq
  have := (v.2.2 p hp t ht).2
  unfold lP at this
  rw [lP_at hp, e] at this
  exact this
theorem DrX.spA {dr : List pt4} (s : ShX h) (v : DrX h dr) {p : Nat} (hp : p < dr.length) : spX h 18 (p * 4) (dr.getD p z4) := ⟨64, kX_18 s, by have := v.1; omega, fun k hk => by
  have := v.2.2 p hp k hk
  rw [show 4 * p + k = p * 4 + k by omega] at this
  exact this⟩
set_option maxRecDepth 100000 in
set_option maxHeartbeats 16000000 in
theorem x_body {dr : List pt4} {x v : Int32} {bs' : List bdy} {dr' : List pt4} (s : ShX h) (X : BsX h bs sa) (dv : DrX h dr) (hv : bodR bs dr x v bs' dr') : ∃ h' sa', (∀ R, qMC (d + 8) 135 [.ref 16, .int x] h R ↔ R = (some (.int v), h')) ∧ ChX bdA bdK 16 h h' ∧ BsX h' bs' sa' ∧ DrX h' dr' := by
  rcases hv with ⟨hx, rfl, eb, ed⟩ | ⟨D, ⟨hD, rfl⟩, hv⟩
  · have i0 : ∀ R, qMC (d + 7) 176 [.int x] h R ↔ R = (some (.int (iN 0)), h) := fun R => x_isDim0 hx
    refine ⟨h, sa, fun R => ?_, ChX.refl s, by rw [eb]; exact X, by rw [ed]; exact dv⟩
    simp (disch := first | assumption | omega) only [e135_0, e135_1, e135_4, e135_7, e135_10, e135_11, e135_12, e135_15, e135_16, e135_19, e135_20, e135_21, e135_22, e135_23, e135_26, e135_29, e135_30, e135_33, e135_34, e135_37, e135_38, e135_39, e135_40, e135_41, e135_44, e135_47, e135_50, e135_51, e135_54, e135_57, e135_60, e135_63, e135_64, e135_65, e135_68, e135_70, e135_73, e135_76, e135_77, e135_78, e135_79, e135_82, e135_83, e135_84, e135_87, e135_88, e135_91, e135_94, m135, ↓reduceIte, qg_0, qg_1, qg_2, qg_3, qg_4, qg_5, qg_6, qg_7, qg_8, qg_9, qg_10, qg_11, qg_12, qg_13, not_true_eq_false, not_false_eq_true, Nat.reduceBEq, Bool.false_eq_true, ex1, ex3, ex4, exF, qfit_i, qfit_l, qfit_r, qfit_n, qfit_b0, qfit_b1, qcat_i, qcat_r, qcat_n, qcat_l, qroom_0, qroom_c, List.map_cons, List.map_nil, List.sum_cons, List.sum_nil, Nat.reduceAdd, Nat.reduceMul, Nat.reduceLT, Nat.reduceLeDiff, Nat.reduceEqDiff, Nat.reduceSub, decide_true, true_and, and_true, and_self, if_true, if_false, Option.toList_some, Option.toList_none, List.cons_append, List.nil_append, qsL, qlong, List.length_cons, List.length_nil, iN_L, exI, iN_add, iN_mul, iN_le, iN_lt, iN_eq, Nat.le_refl, qfN0, qfN1, uX_16, vX_16, uX_19, vX_19, uX_27, vX_27, uX_30, vX_30, uX_39, vX_39, uX_41, vX_41, uX_43, vX_43, uX_46, vX_46, uX_50, vX_50, uX_53, vX_53, i0]
  · have i1 : ∀ R, qMC (d + 7) 176 [.int (iN D)] h R ↔ R = (some (.int (iN 1)), h) := fun R => x_isDim1 hD
    obtain ⟨h1, r1, c1, t1⟩ := x_begin (d := d + 6) s (iN D) rfl
    have s1 := c1.sh
    have d16 := dv.1
    have go : ∀ (w p : Nat) (g : qH), p + w = dr.length → ChX [20] [(19, 1), (19, 2), (19, 3)] 0 h g → HtX g D (tellAll D [] (dr.take p)) → ∃ g', (∀ R, qEv (d + 7) 0 qk_135 21 [some (.ref 16), some (.int (iN D)), some (.int (iN p))] [] g R ↔ qEv (d + 7) 0 qk_135 50 [some (.ref 16), some (.int (iN D)), some (.int (iN dr.length))] [] g' R) ∧ ChX [20] [(19, 1), (19, 2), (19, 3)] 0 h g' ∧ HtX g' D (tellAll D [] dr) := by
      intro w
      induction w with
      | zero =>
        intro p g hp cg tg
        have e : p = dr.length := by omega
        subst e
        have sg := cg.sh
        have m1 : xi g 16 3 = iN dr.length := (cg.xi (by decide) (by decide)).trans dv.2.1
        refine ⟨g, fun R => ?_, cg, by rw [List.take_length] at tg; exact tg⟩
        rw [e135_21]
        simp (disch := first | assumption | omega) only [e135_0, e135_1, e135_4, e135_7, e135_10, e135_11, e135_12, e135_15, e135_16, e135_19, e135_20, e135_22, e135_23, e135_26, e135_29, e135_30, e135_33, e135_34, e135_37, e135_38, e135_39, e135_40, e135_41, e135_44, e135_47, e135_51, e135_54, e135_57, e135_60, e135_63, e135_64, e135_65, e135_68, e135_70, e135_73, e135_76, e135_77, e135_78, e135_79, e135_82, e135_83, e135_84, e135_87, e135_88, e135_91, e135_94, m135, ↓reduceIte, qg_0, qg_1, qg_2, qg_3, qg_4, qg_5, qg_6, qg_7, qg_8, qg_9, qg_10, qg_11, qg_12, qg_13, not_true_eq_false, not_false_eq_true, Nat.reduceBEq, Bool.false_eq_true, ex1, ex3, ex4, exF, qfit_i, qfit_l, qfit_r, qfit_n, qfit_b0, qfit_b1, qcat_i, qcat_r, qcat_n, qcat_l, qroom_0, qroom_c, List.map_cons, List.map_nil, List.sum_cons, List.sum_nil, Nat.reduceAdd, Nat.reduceMul, Nat.reduceLT, Nat.reduceLeDiff, Nat.reduceEqDiff, Nat.reduceSub, decide_true, true_and, and_true, and_self, if_true, if_false, Option.toList_some, Option.toList_none, List.cons_append, List.nil_append, qsL, qlong, List.length_cons, List.length_nil, iN_L, exI, iN_add, iN_mul, iN_le, iN_lt, iN_eq, Nat.le_refl, qfN0, qfN1, uX_16, vX_16, uX_19, vX_19, uX_27, vX_27, uX_30, vX_30, uX_39, vX_39, uX_41, vX_41, uX_43, vX_43, uX_46, vX_46, uX_50, vX_50, uX_53, vX_53, gX_16_3, m1]
      | succ w ih =>
        intro p g hp cg tg
        have sg := cg.sh
        have m1 : xi g 16 3 = iN dr.length := (cg.xi (by decide) (by decide)).trans dv.2.1
        have dg := dv.ch cg s (by decide) (by decide)
        obtain ⟨g2, r2, c2, t2⟩ := x_tellTimes (d := d + 5) (n := 1) sg (show D < 1000 by omega) tg (dg.spA sg (show p < dr.length by omega)) (show p * 4 < 1000 by omega) (by decide)
        rw [show ((1 : Nat) : Int) = 1 from rfl, scP_1] at t2
        obtain ⟨g', r', z'⟩ := ih (p + 1) g2 (by omega) (cg.trans0 (c2.mono (by decide) (by decide) (Nat.le_refl _))) (by rw [tellAll_take (by omega)]; exact t2)
        refine ⟨g', fun R => ?_, z'⟩
        rw [← r' R, e135_21]
        simp (disch := first | assumption | omega) only [e135_0, e135_1, e135_4, e135_7, e135_10, e135_11, e135_12, e135_15, e135_16, e135_19, e135_20, e135_22, e135_23, e135_26, e135_29, e135_30, e135_33, e135_34, e135_37, e135_38, e135_39, e135_40, e135_41, e135_44, e135_47, e135_51, e135_54, e135_57, e135_60, e135_63, e135_64, e135_65, e135_68, e135_70, e135_73, e135_76, e135_77, e135_78, e135_79, e135_82, e135_83, e135_84, e135_87, e135_88, e135_91, e135_94, m135, ↓reduceIte, qg_0, qg_1, qg_2, qg_3, qg_4, qg_5, qg_6, qg_7, qg_8, qg_9, qg_10, qg_11, qg_12, qg_13, not_true_eq_false, not_false_eq_true, Nat.reduceBEq, Bool.false_eq_true, ex1, ex3, ex4, exF, qfit_i, qfit_l, qfit_r, qfit_n, qfit_b0, qfit_b1, qcat_i, qcat_r, qcat_n, qcat_l, qroom_0, qroom_c, List.map_cons, List.map_nil, List.sum_cons, List.sum_nil, Nat.reduceAdd, Nat.reduceMul, Nat.reduceLT, Nat.reduceLeDiff, Nat.reduceEqDiff, Nat.reduceSub, decide_true, true_and, and_true, and_self, if_true, if_false, Option.toList_some, Option.toList_none, List.cons_append, List.nil_append, qsL, qlong, List.length_cons, List.length_nil, iN_L, exI, iN_add, iN_mul, iN_le, iN_lt, iN_eq, Nat.le_refl, qfN0, qfN1, uX_16, vX_16, uX_19, vX_19, uX_27, vX_27, uX_30, vX_30, uX_39, vX_39, uX_41, vX_41, uX_43, vX_43, uX_46, vX_46, uX_50, vX_50, uX_53, vX_53, gX_16_3, m1, show ¬ dr.length ≤ p by omega, gX_16_4, gX_16_2, r2]
    obtain ⟨h2, r2, c2, t2⟩ := go dr.length 0 h1 (by omega) (c1.mono (by decide) (by decide) (Nat.le_refl _)) (by rw [List.take_zero]; exact t1)
    have s2 := c2.sh
    have X2 := X.ch s c2 (by decide) (by decide) (by decide)
    have dv2 := dv.ch c2 s (by decide) (by decide)
    have ok : okP (tellAll D [] dr) D := okP_tell hD dv.sm dv.1
    obtain ⟨h3, r3, c3, z3⟩ := x_findFacets (d := d + 1) s2 t2 ok
    have s3 := c3.sh
    have X3 := X2.ch s2 c3 (by decide) (by decide) (by decide)
    have t3 := t2.ch c3 s2 (by decide) (by decide) (by decide) (by decide)
    have dv3 := dv2.ch c3 s2 (by decide) (by decide)
    have ch3 : ChX bdA bdK 0 h h3 := (c2.mono (by decide) (by decide) (Nat.le_refl _)).trans0 (c3.mono (by decide) (by decide) (Nat.le_refl _))
    have m3 := X3.2.1
    have r0 : ∀ R, qMC (d + 8) 135 [.ref 16, .int (iN D)] h R ↔ qEv (d + 7) 0 qk_135 21 [some (.ref 16), some (.int (iN D)), some (.int (iN 0))] [] h1 R := fun R => by
      simp (disch := first | assumption | omega) only [e135_0, e135_1, e135_4, e135_7, e135_10, e135_11, e135_12, e135_15, e135_16, e135_19, e135_20, e135_22, e135_23, e135_26, e135_29, e135_30, e135_33, e135_34, e135_37, e135_38, e135_39, e135_40, e135_41, e135_44, e135_47, e135_50, e135_51, e135_54, e135_57, e135_60, e135_63, e135_64, e135_65, e135_68, e135_70, e135_73, e135_76, e135_77, e135_78, e135_79, e135_82, e135_83, e135_84, e135_87, e135_88, e135_91, e135_94, m135, ↓reduceIte, qg_0, qg_1, qg_2, qg_3, qg_4, qg_5, qg_6, qg_7, qg_8, qg_9, qg_10, qg_11, qg_12, qg_13, not_true_eq_false, not_false_eq_true, Nat.reduceBEq, Bool.false_eq_true, ex1, ex3, ex4, exF, qfit_i, qfit_l, qfit_r, qfit_n, qfit_b0, qfit_b1, qcat_i, qcat_r, qcat_n, qcat_l, qroom_0, qroom_c, List.map_cons, List.map_nil, List.sum_cons, List.sum_nil, Nat.reduceAdd, Nat.reduceMul, Nat.reduceLT, Nat.reduceLeDiff, Nat.reduceEqDiff, Nat.reduceSub, decide_true, true_and, and_true, and_self, if_true, if_false, Option.toList_some, Option.toList_none, List.cons_append, List.nil_append, qsL, qlong, List.length_cons, List.length_nil, iN_L, exI, iN_add, iN_mul, iN_le, iN_lt, iN_eq, Nat.le_refl, qfN0, qfN1, uX_16, vX_16, uX_19, vX_19, uX_27, vX_27, uX_30, vX_30, uX_39, vX_39, uX_41, vX_41, uX_43, vX_43, uX_46, vX_46, uX_50, vX_50, uX_53, vX_53, i1, gX_16_4, r1]
    have b24 := X.1
    rcases hv with ⟨ns, rfl, eb, ed⟩ | ⟨so, e24, rfl, eb, ed⟩ | ⟨so, l24, rfl, eb, ed⟩
    · rw [tB_f ns, bN_f] at r3
      refine ⟨h3, sa, fun R => ?_, ch3.mono (fun _ z => z) (fun _ z => z) (by decide), by rw [eb]; exact X3, by rw [ed]; exact dv3⟩
      rw [r0 R, r2 R, e135_50]
      simp (disch := first | assumption | omega) only [e135_0, e135_1, e135_4, e135_7, e135_10, e135_11, e135_12, e135_15, e135_16, e135_19, e135_20, e135_22, e135_23, e135_26, e135_29, e135_30, e135_33, e135_34, e135_37, e135_38, e135_39, e135_40, e135_41, e135_44, e135_47, e135_51, e135_54, e135_57, e135_60, e135_63, e135_64, e135_65, e135_68, e135_70, e135_73, e135_76, e135_77, e135_78, e135_79, e135_82, e135_83, e135_84, e135_87, e135_88, e135_91, e135_94, m135, ↓reduceIte, qg_0, qg_1, qg_2, qg_3, qg_4, qg_5, qg_6, qg_7, qg_8, qg_9, qg_10, qg_11, qg_12, qg_13, not_true_eq_false, not_false_eq_true, Nat.reduceBEq, Bool.false_eq_true, ex1, ex3, ex4, exF, qfit_i, qfit_l, qfit_r, qfit_n, qfit_b0, qfit_b1, qcat_i, qcat_r, qcat_n, qcat_l, qroom_0, qroom_c, List.map_cons, List.map_nil, List.sum_cons, List.sum_nil, Nat.reduceAdd, Nat.reduceMul, Nat.reduceLT, Nat.reduceLeDiff, Nat.reduceEqDiff, Nat.reduceSub, decide_true, true_and, and_true, and_self, if_true, if_false, Option.toList_some, Option.toList_none, List.cons_append, List.nil_append, qsL, qlong, List.length_cons, List.length_nil, iN_L, exI, iN_add, iN_mul, iN_le, iN_lt, iN_eq, Nat.le_refl, qfN0, qfN1, uX_16, vX_16, uX_19, vX_19, uX_27, vX_27, uX_30, vX_30, uX_39, vX_39, uX_41, vX_41, uX_43, vX_43, uX_46, vX_46, uX_50, vX_50, uX_53, vX_53, gX_16_4, r3]
    · rw [tB_t so, bN_t] at r3
      refine ⟨h3, sa, fun R => ?_, ch3.mono (fun _ z => z) (fun _ z => z) (by decide), by rw [eb]; exact X3, by rw [ed]; exact dv3⟩
      rw [r0 R, r2 R, e135_50]
      simp (disch := first | assumption | omega) only [e135_0, e135_1, e135_4, e135_7, e135_10, e135_11, e135_12, e135_15, e135_16, e135_19, e135_20, e135_22, e135_23, e135_26, e135_29, e135_30, e135_33, e135_34, e135_37, e135_38, e135_39, e135_40, e135_41, e135_44, e135_47, e135_51, e135_54, e135_57, e135_60, e135_63, e135_64, e135_65, e135_68, e135_70, e135_73, e135_76, e135_77, e135_78, e135_79, e135_82, e135_83, e135_84, e135_87, e135_88, e135_91, e135_94, m135, ↓reduceIte, qg_0, qg_1, qg_2, qg_3, qg_4, qg_5, qg_6, qg_7, qg_8, qg_9, qg_10, qg_11, qg_12, qg_13, not_true_eq_false, not_false_eq_true, Nat.reduceBEq, Bool.false_eq_true, ex1, ex3, ex4, exF, qfit_i, qfit_l, qfit_r, qfit_n, qfit_b0, qfit_b1, qcat_i, qcat_r, qcat_n, qcat_l, qroom_0, qroom_c, List.map_cons, List.map_nil, List.sum_cons, List.sum_nil, Nat.reduceAdd, Nat.reduceMul, Nat.reduceLT, Nat.reduceLeDiff, Nat.reduceEqDiff, Nat.reduceSub, decide_true, true_and, and_true, and_self, if_true, if_false, Option.toList_some, Option.toList_none, List.cons_append, List.nil_append, qsL, qlong, List.length_cons, List.length_nil, iN_L, exI, iN_add, iN_mul, iN_le, iN_lt, iN_eq, Nat.le_refl, qfN0, qfN1, uX_16, vX_16, uX_19, vX_19, uX_27, vX_27, uX_30, vX_30, uX_39, vX_39, uX_41, vX_41, uX_43, vX_43, uX_46, vX_46, uX_50, vX_50, uX_53, vX_53, gX_16_4, r3, gX_16_1, m3, e24]
    · rw [tB_t so, bN_t] at r3
      obtain ⟨h4, e4⟩ : ∃ h4, h4 = xV h3 16 3 (.int (iN 0)) := ⟨_, rfl⟩
      have c4 : ChX bdA bdK 0 h3 h4 := by rw [e4]; exact ChX.setI s3 (by decide) (by decide)
      have c4' : ChX [] [(16, 3)] 0 h3 h4 := by rw [e4]; exact ChX.setI s3 (by decide) (by decide)
      have s4 := c4.sh
      have p4 : qput h3 16 10 3 (.int (iN 0)) = some h4 := by rw [e4]; exact pX_16_3 s3
      have X4 := X3.ch s3 c4' (by decide) (by decide) (by decide)
      have t4 := t3.ch c4' s3 (by decide) (by decide) (by decide) (by decide)
      obtain ⟨f, S, Q, Q', z1, z2, z4, z5⟩ := z3 so
      have z2' := z2.ch c4' s3 (by decide) (by decide) (by decide)
      have x4 : xi h4 16 3 = iN 0 := by rw [e4, xi_xV, if_pos ⟨rfl, rfl⟩]
      obtain ⟨h5, h6, a, sa', r5, r6, s5, c6, X6⟩ := x_mk3 (d := d + 1) (sc := iN 1) s4 X4 t4 ok so l24 ⟨f, S, Q, Q', z1, z2', z4, z5⟩
      refine ⟨h6, sa', fun R => ?_, ((ch3.trans0 c4).trans (c6.mono (fun _ z => z) (J' := bdK) (by decide) (Nat.le_refl _))).mono (fun _ z => z) (fun _ z => z) (by decide), by rw [eb]; exact X6, by rw [ed]; exact ⟨by show 0 ≤ 16; omega, (c6.xi (by decide) (by decide)).trans x4, fun p hp => absurd hp (Nat.not_lt_zero p)⟩⟩
      rw [r0 R, r2 R, e135_50]
      simp (disch := first | assumption | omega) only [e135_0, e135_1, e135_4, e135_7, e135_10, e135_11, e135_12, e135_15, e135_16, e135_19, e135_20, e135_22, e135_23, e135_26, e135_29, e135_30, e135_33, e135_34, e135_37, e135_38, e135_39, e135_40, e135_41, e135_44, e135_47, e135_51, e135_54, e135_57, e135_60, e135_63, e135_64, e135_65, e135_68, e135_70, e135_73, e135_76, e135_77, e135_78, e135_79, e135_82, e135_83, e135_84, e135_87, e135_88, e135_91, e135_94, m135, ↓reduceIte, qg_0, qg_1, qg_2, qg_3, qg_4, qg_5, qg_6, qg_7, qg_8, qg_9, qg_10, qg_11, qg_12, qg_13, not_true_eq_false, not_false_eq_true, Nat.reduceBEq, Bool.false_eq_true, ex1, ex3, ex4, exF, qfit_i, qfit_l, qfit_r, qfit_n, qfit_b0, qfit_b1, qcat_i, qcat_r, qcat_n, qcat_l, qroom_0, qroom_c, List.map_cons, List.map_nil, List.sum_cons, List.sum_nil, Nat.reduceAdd, Nat.reduceMul, Nat.reduceLT, Nat.reduceLeDiff, Nat.reduceEqDiff, Nat.reduceSub, decide_true, true_and, and_true, and_self, if_true, if_false, Option.toList_some, Option.toList_none, List.cons_append, List.nil_append, qsL, qlong, List.length_cons, List.length_nil, iN_L, exI, iN_add, iN_mul, iN_le, iN_lt, iN_eq, Nat.le_refl, qfN0, qfN1, uX_16, vX_16, uX_19, vX_19, uX_27, vX_27, uX_30, vX_30, uX_39, vX_39, uX_41, vX_41, uX_43, vX_43, uX_46, vX_46, uX_50, vX_50, uX_53, vX_53, gX_16_4, r3, gX_16_1, m3, show bs.length < 24 by omega, p4, r5, r6]
set_option maxRecDepth 100000 in
set_option maxHeartbeats 16000000 in
theorem x_both {x y v : Int32} {bs' : List bdy} (s : ShX h) (X : BsX h bs sa) (hv : botR bs x y v bs') : ∃ h' sa', (∀ R, qMC (d + 8) 141 [.ref 16, .int x, .int y] h R ↔ R = (some (.int v), h')) ∧ ChX bdA bdJ 16 h h' ∧ BsX h' bs' sa' := by
  rcases hv with ⟨hn, rfl, eb⟩ | ⟨i, j, ⟨hi', rfl⟩, ⟨hj, rfl⟩, hv⟩
  · refine ⟨h, sa, fun R => ?_, ChX.refl s, by rw [eb]; exact X⟩
    by_cases hx : isB bs x
    · have hy : ¬ isB bs y := fun hy => hn ⟨hx, hy⟩
      obtain ⟨i, hi', rfl⟩ := hx
      have b1 : ∀ R, qMC (d + 7) 179 [.ref 16, .int (iN i)] h R ↔ R = (some (.ref (sa i)), h) := fun R => x_bodyAt1 s X hi'
      have b2 : ∀ R, qMC (d + 7) 179 [.ref 16, .int y] h R ↔ R = (some .null, h) := fun R => x_bodyAt0 s X hy
      simp (disch := first | assumption | omega) only [e141_0, e141_1, e141_2, e141_5, e141_6, e141_7, e141_8, e141_11, e141_13, e141_14, e141_14N, e141_17, e141_19, e141_19N, e141_22, e141_25, e141_26, e141_27, e141_30, e141_32, e141_35, e141_38, e141_41, e141_42, e141_43, e141_46, e141_47, e141_50, e141_53, e141_54, e141_57, e141_58, e141_59, e141_62, e141_63, e141_66, e141_68, e141_69, e141_72, e141_73, e141_76, e141_78, e141_81, e141_82, e141_85, e141_88, e141_91, e141_94, e141_95, e141_96, e141_97, e141_100, m141, ↓reduceIte, qg_0, qg_1, qg_2, qg_3, qg_4, qg_5, qg_6, qg_7, qg_8, qg_9, qg_10, qg_11, qg_12, qg_13, not_true_eq_false, not_false_eq_true, Nat.reduceBEq, Bool.false_eq_true, ex1, ex3, ex4, exF, qfit_i, qfit_l, qfit_r, qfit_n, qfit_b0, qfit_b1, qcat_i, qcat_r, qcat_n, qcat_l, qroom_0, qroom_c, List.map_cons, List.map_nil, List.sum_cons, List.sum_nil, Nat.reduceAdd, Nat.reduceMul, Nat.reduceLT, Nat.reduceLeDiff, Nat.reduceEqDiff, Nat.reduceSub, decide_true, true_and, and_true, and_self, if_true, if_false, Option.toList_some, Option.toList_none, List.cons_append, List.nil_append, qsL, qlong, List.length_cons, List.length_nil, iN_L, exI, iN_add, iN_mul, iN_le, iN_lt, iN_eq, Nat.le_refl, qfN0, qfN1, uX_16, vX_16, uX_19, vX_19, uX_27, vX_27, uX_30, vX_30, uX_39, vX_39, uX_41, vX_41, uX_43, vX_43, uX_46, vX_46, uX_50, vX_50, uX_53, vX_53, b1, b2]
    · have b1 : ∀ R, qMC (d + 7) 179 [.ref 16, .int x] h R ↔ R = (some .null, h) := fun R => x_bodyAt0 s X hx
      by_cases hy : isB bs y
      · obtain ⟨j, hj, rfl⟩ := hy
        have b2 : ∀ R, qMC (d + 7) 179 [.ref 16, .int (iN j)] h R ↔ R = (some (.ref (sa j)), h) := fun R => x_bodyAt1 s X hj
        simp (disch := first | assumption | omega) only [e141_0, e141_1, e141_2, e141_5, e141_6, e141_7, e141_8, e141_11, e141_13, e141_14, e141_14N, e141_17, e141_19, e141_19N, e141_22, e141_25, e141_26, e141_27, e141_30, e141_32, e141_35, e141_38, e141_41, e141_42, e141_43, e141_46, e141_47, e141_50, e141_53, e141_54, e141_57, e141_58, e141_59, e141_62, e141_63, e141_66, e141_68, e141_69, e141_72, e141_73, e141_76, e141_78, e141_81, e141_82, e141_85, e141_88, e141_91, e141_94, e141_95, e141_96, e141_97, e141_100, m141, ↓reduceIte, qg_0, qg_1, qg_2, qg_3, qg_4, qg_5, qg_6, qg_7, qg_8, qg_9, qg_10, qg_11, qg_12, qg_13, not_true_eq_false, not_false_eq_true, Nat.reduceBEq, Bool.false_eq_true, ex1, ex3, ex4, exF, qfit_i, qfit_l, qfit_r, qfit_n, qfit_b0, qfit_b1, qcat_i, qcat_r, qcat_n, qcat_l, qroom_0, qroom_c, List.map_cons, List.map_nil, List.sum_cons, List.sum_nil, Nat.reduceAdd, Nat.reduceMul, Nat.reduceLT, Nat.reduceLeDiff, Nat.reduceEqDiff, Nat.reduceSub, decide_true, true_and, and_true, and_self, if_true, if_false, Option.toList_some, Option.toList_none, List.cons_append, List.nil_append, qsL, qlong, List.length_cons, List.length_nil, iN_L, exI, iN_add, iN_mul, iN_le, iN_lt, iN_eq, Nat.le_refl, qfN0, qfN1, uX_16, vX_16, uX_19, vX_19, uX_27, vX_27, uX_30, vX_30, uX_39, vX_39, uX_41, vX_41, uX_43, vX_43, uX_46, vX_46, uX_50, vX_50, uX_53, vX_53, b1, b2]
      · have b2 : ∀ R, qMC (d + 7) 179 [.ref 16, .int y] h R ↔ R = (some .null, h) := fun R => x_bodyAt0 s X hy
        simp (disch := first | assumption | omega) only [e141_0, e141_1, e141_2, e141_5, e141_6, e141_7, e141_8, e141_11, e141_13, e141_14, e141_14N, e141_17, e141_19, e141_19N, e141_22, e141_25, e141_26, e141_27, e141_30, e141_32, e141_35, e141_38, e141_41, e141_42, e141_43, e141_46, e141_47, e141_50, e141_53, e141_54, e141_57, e141_58, e141_59, e141_62, e141_63, e141_66, e141_68, e141_69, e141_72, e141_73, e141_76, e141_78, e141_81, e141_82, e141_85, e141_88, e141_91, e141_94, e141_95, e141_96, e141_97, e141_100, m141, ↓reduceIte, qg_0, qg_1, qg_2, qg_3, qg_4, qg_5, qg_6, qg_7, qg_8, qg_9, qg_10, qg_11, qg_12, qg_13, not_true_eq_false, not_false_eq_true, Nat.reduceBEq, Bool.false_eq_true, ex1, ex3, ex4, exF, qfit_i, qfit_l, qfit_r, qfit_n, qfit_b0, qfit_b1, qcat_i, qcat_r, qcat_n, qcat_l, qroom_0, qroom_c, List.map_cons, List.map_nil, List.sum_cons, List.sum_nil, Nat.reduceAdd, Nat.reduceMul, Nat.reduceLT, Nat.reduceLeDiff, Nat.reduceEqDiff, Nat.reduceSub, decide_true, true_and, and_true, and_self, if_true, if_false, Option.toList_some, Option.toList_none, List.cons_append, List.nil_append, qsL, qlong, List.length_cons, List.length_nil, iN_L, exI, iN_add, iN_mul, iN_le, iN_lt, iN_eq, Nat.le_refl, qfN0, qfN1, uX_16, vX_16, uX_19, vX_19, uX_27, vX_27, uX_30, vX_30, uX_39, vX_39, uX_41, vX_41, uX_43, vX_43, uX_46, vX_46, uX_50, vX_50, uX_53, vX_53, b1, b2]
  · have b1 : ∀ R, qMC (d + 7) 179 [.ref 16, .int (iN i)] h R ↔ R = (some (.ref (sa i)), h) := fun R => x_bodyAt1 s X hi'
    have b2 : ∀ R, qMC (d + 7) 179 [.ref 16, .int (iN j)] h R ↔ R = (some (.ref (sa j)), h) := fun R => x_bodyAt1 s X hj
    obtain ⟨p, q, w, e, B, S, P⟩ := X.at hi'
    obtain ⟨⟨u16, ult, uF⟩, g0, g1, g2, g3, g4, g5, g6⟩ := S.obj
    obtain ⟨p', q', w', e', B', S', P'⟩ := X.at hj
    obtain ⟨⟨u16', ult', uF'⟩, g0', g1', g2', g3', g4', g5', g6'⟩ := S'.obj
    have hD := P.1
    have hD' := P'.1
    rcases hv with ⟨ne, rfl, eb⟩ | ⟨ed, hv⟩
    · refine ⟨h, sa, fun R => ?_, ChX.refl s, by rw [eb]; exact X⟩
      simp (disch := first | assumption | omega) only [e141_0, e141_1, e141_2, e141_5, e141_6, e141_7, e141_8, e141_11, e141_13, e141_14, e141_14N, e141_17, e141_19, e141_19N, e141_22, e141_25, e141_26, e141_27, e141_30, e141_32, e141_35, e141_38, e141_41, e141_42, e141_43, e141_46, e141_47, e141_50, e141_53, e141_54, e141_57, e141_58, e141_59, e141_62, e141_63, e141_66, e141_68, e141_69, e141_72, e141_73, e141_76, e141_78, e141_81, e141_82, e141_85, e141_88, e141_91, e141_94, e141_95, e141_96, e141_97, e141_100, m141, ↓reduceIte, qg_0, qg_1, qg_2, qg_3, qg_4, qg_5, qg_6, qg_7, qg_8, qg_9, qg_10, qg_11, qg_12, qg_13, not_true_eq_false, not_false_eq_true, Nat.reduceBEq, Bool.false_eq_true, ex1, ex3, ex4, exF, qfit_i, qfit_l, qfit_r, qfit_n, qfit_b0, qfit_b1, qcat_i, qcat_r, qcat_n, qcat_l, qroom_0, qroom_c, List.map_cons, List.map_nil, List.sum_cons, List.sum_nil, Nat.reduceAdd, Nat.reduceMul, Nat.reduceLT, Nat.reduceLeDiff, Nat.reduceEqDiff, Nat.reduceSub, decide_true, true_and, and_true, and_self, if_true, if_false, Option.toList_some, Option.toList_none, List.cons_append, List.nil_append, qsL, qlong, List.length_cons, List.length_nil, iN_L, exI, iN_add, iN_mul, iN_le, iN_lt, iN_eq, Nat.le_refl, qfN0, qfN1, uX_16, vX_16, uX_19, vX_19, uX_27, vX_27, uX_30, vX_30, uX_39, vX_39, uX_41, vX_41, uX_43, vX_43, uX_46, vX_46, uX_50, vX_50, uX_53, vX_53, b1, b2, u16, ult, uF, g0, g1, g2, g3, g4, g5, g6, u16', ult', uF', g0', g1', g2', g3', g4', g5', g6', ne]
    · obtain ⟨h1, r1, c1, t1⟩ := x_begin (d := d + 6) s (iN (dmn bs i)) rfl
      have s1 := c1.sh
      have X1 := X.ch s c1 (by decide) (by decide) (by decide)
      obtain ⟨h2, r2, c2, t2⟩ := x_tellAll (d := d + 4) (n := 1) s1 (show dmn bs i < 1000 by omega) X1 hi' t1 (by decide)
      have s2 := c2.sh
      have X2 := X1.ch s1 c2 (by decide) (by decide) (by decide)
      obtain ⟨h3, r3, c3, t3⟩ := x_tellAll (d := d + 4) (n := 1) s2 (show dmn bs i < 1000 by omega) X2 hj t2 (by decide)
      have s3 := c3.sh
      have X3 := X2.ch s2 c3 (by decide) (by decide) (by decide)
      have m1 : ∀ cs : List pt4, cs.map (scP ((1 : Nat) : Int)) = cs := fun cs => by
        rw [show scP ((1 : Nat) : Int) = id from funext fun p => scP_1 p, List.map_id]
      rw [m1, m1] at t3
      have t3' : HtX h3 (dmn bs i) (botP bs i j) := t3
      obtain ⟨p2, q2, w2, e2, B2, S2, P2⟩ := X1.at hi'
      obtain ⟨p3, q3, w3, e3, B3, S3, P3⟩ := X2.at hj
      have ch3 : ChX bdA bdJ 0 h h3 := ((c1.mono (by decide) (by decide) (Nat.le_refl _)).trans0 (c2.mono (by decide) (by decide) (Nat.le_refl _))).trans0 (c3.mono (by decide) (by decide) (Nat.le_refl _))
      have m3 := X3.2.1
      have ov := t3'.2.2.1
      have b24 := X.1
      have cm : ∀ k, k < bs.length → smP (cnr bs k) := fun k hk q hq t ht => by
        obtain ⟨c, hc, e⟩ := List.getElem_of_mem hq
        obtain ⟨-, -, -, -, -, -, Pk⟩ := X.at hk
        have := Pk.2.2.1 c hc t ht
        unfold lP at this
        rw [lP_at hc, e] at this
        exact this
      obtain ⟨o1, o2⟩ := okT0 (dmn bs i) (cnr bs j) _ (okT0 (dmn bs i) (cnr bs i) [] (okNil _))
      have sm : smP (botP bs i j) := by
        obtain ⟨a, b, c⟩ := tellAll_ok (D := dmn bs i) (cnr bs i) [] List.nodup_nil (fun r hr => absurd hr List.not_mem_nil) (fun q hq => absurd hq List.not_mem_nil) (cm i hi')
        exact (tellAll_ok (D := dmn bs i) (cnr bs j) _ a b c (cm j hj)).2.2
      have r0 : ∀ R, qMC (d + 8) 141 [.ref 16, .int (iN i), .int (iN j)] h R ↔ qEv (d + 7) 0 qk_141 72 [some (.ref 16), some (.int (iN i)), some (.int (iN j)), some (.ref (sa i)), some (.ref (sa j))] [] h3 R := fun R => by
        simp (disch := first | assumption | omega) only [e141_0, e141_1, e141_2, e141_5, e141_6, e141_7, e141_8, e141_11, e141_13, e141_14, e141_14N, e141_17, e141_19, e141_19N, e141_22, e141_25, e141_26, e141_27, e141_30, e141_32, e141_35, e141_38, e141_41, e141_42, e141_43, e141_46, e141_47, e141_50, e141_53, e141_54, e141_57, e141_58, e141_59, e141_62, e141_63, e141_66, e141_68, e141_69, e141_73, e141_76, e141_78, e141_81, e141_82, e141_85, e141_88, e141_91, e141_94, e141_95, e141_96, e141_97, e141_100, m141, ↓reduceIte, qg_0, qg_1, qg_2, qg_3, qg_4, qg_5, qg_6, qg_7, qg_8, qg_9, qg_10, qg_11, qg_12, qg_13, not_true_eq_false, not_false_eq_true, Nat.reduceBEq, Bool.false_eq_true, ex1, ex3, ex4, exF, qfit_i, qfit_l, qfit_r, qfit_n, qfit_b0, qfit_b1, qcat_i, qcat_r, qcat_n, qcat_l, qroom_0, qroom_c, List.map_cons, List.map_nil, List.sum_cons, List.sum_nil, Nat.reduceAdd, Nat.reduceMul, Nat.reduceLT, Nat.reduceLeDiff, Nat.reduceEqDiff, Nat.reduceSub, decide_true, true_and, and_true, and_self, if_true, if_false, Option.toList_some, Option.toList_none, List.cons_append, List.nil_append, qsL, qlong, List.length_cons, List.length_nil, iN_L, exI, iN_add, iN_mul, iN_le, iN_lt, iN_eq, Nat.le_refl, qfN0, qfN1, uX_16, vX_16, uX_19, vX_19, uX_27, vX_27, uX_30, vX_30, uX_39, vX_39, uX_41, vX_41, uX_43, vX_43, uX_46, vX_46, uX_50, vX_50, uX_53, vX_53, b1, b2, u16, ult, uF, g0, g1, g2, g3, g4, g5, g6, u16', ult', uF', g0', g1', g2', g3', g4', g5', g6', ed.symm, gX_16_4, r1, r2, r3]
      rcases hv with ⟨hf, rfl, eb⟩ | ⟨⟨l24, l16⟩, ns, -, -⟩ | ⟨⟨l24, l16⟩, -, ns, rfl, eb⟩ | ⟨⟨l24, l16⟩, -, so, rfl, eb⟩
      · refine ⟨h3, sa, fun R => ?_, ch3.mono (fun _ z => z) (fun _ z => z) (by decide), by rw [eb]; exact X3⟩
        rw [r0 R, e141_72]
        by_cases z : bs.length = 24
        · simp (disch := first | assumption | omega) only [e141_0, e141_1, e141_2, e141_5, e141_6, e141_7, e141_8, e141_11, e141_13, e141_14, e141_14N, e141_17, e141_19, e141_19N, e141_22, e141_25, e141_26, e141_27, e141_30, e141_32, e141_35, e141_38, e141_41, e141_42, e141_43, e141_46, e141_47, e141_50, e141_53, e141_54, e141_57, e141_58, e141_59, e141_62, e141_63, e141_66, e141_68, e141_69, e141_73, e141_76, e141_78, e141_81, e141_82, e141_85, e141_88, e141_91, e141_94, e141_95, e141_96, e141_97, e141_100, m141, ↓reduceIte, qg_0, qg_1, qg_2, qg_3, qg_4, qg_5, qg_6, qg_7, qg_8, qg_9, qg_10, qg_11, qg_12, qg_13, not_true_eq_false, not_false_eq_true, Nat.reduceBEq, Bool.false_eq_true, ex1, ex3, ex4, exF, qfit_i, qfit_l, qfit_r, qfit_n, qfit_b0, qfit_b1, qcat_i, qcat_r, qcat_n, qcat_l, qroom_0, qroom_c, List.map_cons, List.map_nil, List.sum_cons, List.sum_nil, Nat.reduceAdd, Nat.reduceMul, Nat.reduceLT, Nat.reduceLeDiff, Nat.reduceEqDiff, Nat.reduceSub, decide_true, true_and, and_true, and_self, if_true, if_false, Option.toList_some, Option.toList_none, List.cons_append, List.nil_append, qsL, qlong, List.length_cons, List.length_nil, iN_L, exI, iN_add, iN_mul, iN_le, iN_lt, iN_eq, Nat.le_refl, qfN0, qfN1, uX_16, vX_16, uX_19, vX_19, uX_27, vX_27, uX_30, vX_30, uX_39, vX_39, uX_41, vX_41, uX_43, vX_43, uX_46, vX_46, uX_50, vX_50, uX_53, vX_53, gX_16_1, m3, z]
        · have gt : 16 < (botP bs i j).length := hf.resolve_left z
          rw [decide_eq_true gt, bN_t] at ov
          simp (disch := first | assumption | omega) only [e141_0, e141_1, e141_2, e141_5, e141_6, e141_7, e141_8, e141_11, e141_13, e141_14, e141_14N, e141_17, e141_19, e141_19N, e141_22, e141_25, e141_26, e141_27, e141_30, e141_32, e141_35, e141_38, e141_41, e141_42, e141_43, e141_46, e141_47, e141_50, e141_53, e141_54, e141_57, e141_58, e141_59, e141_62, e141_63, e141_66, e141_68, e141_69, e141_73, e141_76, e141_78, e141_81, e141_82, e141_85, e141_88, e141_91, e141_94, e141_95, e141_96, e141_97, e141_100, m141, ↓reduceIte, qg_0, qg_1, qg_2, qg_3, qg_4, qg_5, qg_6, qg_7, qg_8, qg_9, qg_10, qg_11, qg_12, qg_13, not_true_eq_false, not_false_eq_true, Nat.reduceBEq, Bool.false_eq_true, ex1, ex3, ex4, exF, qfit_i, qfit_l, qfit_r, qfit_n, qfit_b0, qfit_b1, qcat_i, qcat_r, qcat_n, qcat_l, qroom_0, qroom_c, List.map_cons, List.map_nil, List.sum_cons, List.sum_nil, Nat.reduceAdd, Nat.reduceMul, Nat.reduceLT, Nat.reduceLeDiff, Nat.reduceEqDiff, Nat.reduceSub, decide_true, true_and, and_true, and_self, if_true, if_false, Option.toList_some, Option.toList_none, List.cons_append, List.nil_append, qsL, qlong, List.length_cons, List.length_nil, iN_L, exI, iN_add, iN_mul, iN_le, iN_lt, iN_eq, Nat.le_refl, qfN0, qfN1, uX_16, vX_16, uX_19, vX_19, uX_27, vX_27, uX_30, vX_30, uX_39, vX_39, uX_41, vX_41, uX_43, vX_43, uX_46, vX_46, uX_50, vX_50, uX_53, vX_53, gX_16_1, m3, show ¬ 24 ≤ bs.length by omega, gX_16_4, gX_19_2, ov]
      · exact absurd sm ns
      · rw [decide_eq_false (show ¬ 16 < (botP bs i j).length by omega), bN_f] at ov
        obtain ⟨h4, sa', r4, c4, X4⟩ := x_keepHull (d := d) (sc := iN 1) s3 X3 t3' ⟨sm, o1, l16, o2, hD⟩ l24 (Or.inl ⟨ns, rfl, eb⟩)
        refine ⟨h4, sa', fun R => ?_, (ch3.trans c4).mono (fun _ z => z) (fun _ z => z) (by decide), X4⟩
        rw [r0 R, e141_72]
        simp (disch := first | assumption | omega) only [e141_0, e141_1, e141_2, e141_5, e141_6, e141_7, e141_8, e141_11, e141_13, e141_14, e141_14N, e141_17, e141_19, e141_19N, e141_22, e141_25, e141_26, e141_27, e141_30, e141_32, e141_35, e141_38, e141_41, e141_42, e141_43, e141_46, e141_47, e141_50, e141_53, e141_54, e141_57, e141_58, e141_59, e141_62, e141_63, e141_66, e141_68, e141_69, e141_73, e141_76, e141_78, e141_81, e141_82, e141_85, e141_88, e141_91, e141_94, e141_95, e141_96, e141_97, e141_100, m141, ↓reduceIte, qg_0, qg_1, qg_2, qg_3, qg_4, qg_5, qg_6, qg_7, qg_8, qg_9, qg_10, qg_11, qg_12, qg_13, not_true_eq_false, not_false_eq_true, Nat.reduceBEq, Bool.false_eq_true, ex1, ex3, ex4, exF, qfit_i, qfit_l, qfit_r, qfit_n, qfit_b0, qfit_b1, qcat_i, qcat_r, qcat_n, qcat_l, qroom_0, qroom_c, List.map_cons, List.map_nil, List.sum_cons, List.sum_nil, Nat.reduceAdd, Nat.reduceMul, Nat.reduceLT, Nat.reduceLeDiff, Nat.reduceEqDiff, Nat.reduceSub, decide_true, true_and, and_true, and_self, if_true, if_false, Option.toList_some, Option.toList_none, List.cons_append, List.nil_append, qsL, qlong, List.length_cons, List.length_nil, iN_L, exI, iN_add, iN_mul, iN_le, iN_lt, iN_eq, Nat.le_refl, qfN0, qfN1, uX_16, vX_16, uX_19, vX_19, uX_27, vX_27, uX_30, vX_30, uX_39, vX_39, uX_41, vX_41, uX_43, vX_43, uX_46, vX_46, uX_50, vX_50, uX_53, vX_53, gX_16_1, m3, show ¬ 24 ≤ bs.length by omega, gX_16_4, gX_19_2, ov, r4]
      · rw [decide_eq_false (show ¬ 16 < (botP bs i j).length by omega), bN_f] at ov
        obtain ⟨h4, sa', r4, c4, X4⟩ := x_keepHull (d := d) (sc := iN 1) s3 X3 t3' ⟨sm, o1, l16, o2, hD⟩ l24 (Or.inr ⟨so, rfl, eb⟩)
        refine ⟨h4, sa', fun R => ?_, (ch3.trans c4).mono (fun _ z => z) (fun _ z => z) (by decide), X4⟩
        rw [r0 R, e141_72]
        simp (disch := first | assumption | omega) only [e141_0, e141_1, e141_2, e141_5, e141_6, e141_7, e141_8, e141_11, e141_13, e141_14, e141_14N, e141_17, e141_19, e141_19N, e141_22, e141_25, e141_26, e141_27, e141_30, e141_32, e141_35, e141_38, e141_41, e141_42, e141_43, e141_46, e141_47, e141_50, e141_53, e141_54, e141_57, e141_58, e141_59, e141_62, e141_63, e141_66, e141_68, e141_69, e141_73, e141_76, e141_78, e141_81, e141_82, e141_85, e141_88, e141_91, e141_94, e141_95, e141_96, e141_97, e141_100, m141, ↓reduceIte, qg_0, qg_1, qg_2, qg_3, qg_4, qg_5, qg_6, qg_7, qg_8, qg_9, qg_10, qg_11, qg_12, qg_13, not_true_eq_false, not_false_eq_true, Nat.reduceBEq, Bool.false_eq_true, ex1, ex3, ex4, exF, qfit_i, qfit_l, qfit_r, qfit_n, qfit_b0, qfit_b1, qcat_i, qcat_r, qcat_n, qcat_l, qroom_0, qroom_c, List.map_cons, List.map_nil, List.sum_cons, List.sum_nil, Nat.reduceAdd, Nat.reduceMul, Nat.reduceLT, Nat.reduceLeDiff, Nat.reduceEqDiff, Nat.reduceSub, decide_true, true_and, and_true, and_self, if_true, if_false, Option.toList_some, Option.toList_none, List.cons_append, List.nil_append, qsL, qlong, List.length_cons, List.length_nil, iN_L, exI, iN_add, iN_mul, iN_le, iN_lt, iN_eq, Nat.le_refl, qfN0, qfN1, uX_16, vX_16, uX_19, vX_19, uX_27, vX_27, uX_30, vX_30, uX_39, vX_39, uX_41, vX_41, uX_43, vX_43, uX_46, vX_46, uX_50, vX_50, uX_53, vX_53, gX_16_1, m3, show ¬ 24 ≤ bs.length by omega, gX_16_4, gX_19_2, ov, r4]
end XBODY

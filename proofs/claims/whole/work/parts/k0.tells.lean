/-! ===== THE CLASS: many points are told ===== -/
section XTELLS
variable {d D : Nat} {h : qH} {R : qRes} {l : List pt4} {bs : List bdy} {sa : Nat → Nat}
def scP (n : Int) (p : pt4) : pt4 := (p.1 * n, p.2.1 * n, p.2.2.1 * n, p.2.2.2 * n)
theorem scP_1 (p : pt4) : scP 1 p = p := by
  unfold scP
  rw [Int.mul_one, Int.mul_one, Int.mul_one, Int.mul_one]
theorem scP_co (n : Int) (p : pt4) : ∀ k, k < 4 → co (scP n p) k = co p k * n
  | 0, _ => rfl
  | 1, _ => rfl
  | 2, _ => rfl
  | 3, _ => rfl
theorem scP_b {n : Int} {p : pt4} (hn : -99 ≤ n ∧ n ≤ 99) (hp : ∀ k, k < 4 → -999 ≤ co p k ∧ co p k ≤ 999) : ptB (scP n p) := fun k hk => by
  have := mul_b (A := 999) (B := 99) (hp k hk) hn
  rw [scP_co n p k hk]
  unfold iB
  omega
set_option maxRecDepth 100000 in
set_option maxHeartbeats 16000000 in
theorem x_tellTimes {r t n : Nat} {p : pt4} (s : ShX h) (hD : D < 1000) (v : HtX h D l) (sp : spX h r t p) (ht : t < 1000) (hn : n ≤ 99) : ∃ h', (∀ R, qMC (d + 2) 15 [.ref 19, .ref r, .int (iN t), .int (iN n)] h R ↔ R = (none, h')) ∧ ChX [20] [(19, 1), (19, 2)] 0 h h' ∧ HtX h' D (addP l (prj D (scP n p))) := by
  obtain ⟨m, kr, tm, sv⟩ := sp
  obtain ⟨h', rt, c', v'⟩ := x_tell (d := d) (q := scP n p) s hD v (scP_b ⟨by omega, by omega⟩ (fun k hk => (sv k hk).2))
  have ri : ∀ k, k < 4 → qiald h r (iN (t + k)) = some (iZ (co p k)) := fun k hk => by rw [rdI kr (by omega), (sv k hk).1]
  have b0 : qiald h r (iN t) = some (iZ (co p 0)) := ri 0 (by decide)
  have b1 := ri 1 (by decide)
  have b2 := ri 2 (by decide)
  have b3 := ri 3 (by decide)
  refine ⟨h', fun R => ?_, c', v'⟩
  have rt' : ∀ R, qMC (d + 1) 14 [.ref 19, .int (iZ (co p 0 * n)), .int (iZ (co p 1 * n)), .int (iZ (co p 2 * n)), .int (iZ (co p 3 * n))] h R ↔ R = (none, h') := rt
  simp (disch := first | assumption | omega) only [e15_0, e15_1, e15_2, e15_3, e15_4, e15_5, e15_6, e15_7, e15_8, e15_9, e15_10, e15_11, e15_12, e15_13, e15_14, e15_15, e15_16, e15_17, e15_18, e15_19, e15_20, e15_21, e15_22, e15_23, e15_24, e15_25, e15_26, e15_27, e15_30, m15, ↓reduceIte, qg_0, qg_1, qg_2, qg_3, qg_4, qg_5, qg_6, qg_7, qg_8, qg_9, qg_10, qg_11, qg_12, qg_13, not_true_eq_false, not_false_eq_true, Nat.reduceBEq, Bool.false_eq_true, ex1, ex3, ex4, exF, qfit_i, qfit_l, qfit_r, qfit_n, qfit_b0, qfit_b1, qcat_i, qcat_r, qcat_n, qcat_l, qroom_0, qroom_c, List.map_cons, List.map_nil, List.sum_cons, List.sum_nil, Nat.reduceAdd, Nat.reduceMul, Nat.reduceLT, Nat.reduceLeDiff, Nat.reduceEqDiff, Nat.reduceSub, decide_true, true_and, and_true, and_self, if_true, if_false, Option.toList_some, Option.toList_none, List.cons_append, List.nil_append, qsL, qlong, List.length_cons, List.length_nil, iN_L, exI, iN_add, iN_mul, iN_le, iN_lt, iN_eq, Nat.le_refl, qfN0, qfN1, uX_16, vX_16, uX_19, vX_19, uX_27, vX_27, uX_30, vX_30, uX_39, vX_39, uX_41, vX_41, uX_43, vX_43, uX_46, vX_46, uX_50, vX_50, uX_53, vX_53, b0, b1, b2, b3, iZ_mN, rt']
theorem chI {A : List Nat} {J : List (Nat × Nat)} {k a n : Nat} {h' : qH} (c : ChX A J k h h') (ka : kI h a n) (hA : a ∉ A) (s : ShX h) : kI h' a n ∧ hi h' a = hi h a := by
  have no : a ∉ XO := fun z => by
    obtain ⟨ci, -, hc⟩ := (by decide : ∀ x ∈ XO, (∃ ci, ci < 20 ∧ (x, ci) ∈ XOs)) a z
    exact kO_kI (s.1 _ hc) ka
  exact ⟨ka.sm c.1.2.1 (c.at hA no ka.1.2.2), c.hi hA no ka.1.2.2⟩
theorem spX.ch {A : List Nat} {J : List (Nat × Nat)} {k r t : Nat} {p : pt4} {h' : qH} (sp : spX h r t p) (c : ChX A J k h h') (hA : r ∉ A) (s : ShX h) : spX h' r t p := by
  obtain ⟨n, kr, tn, sv⟩ := sp
  obtain ⟨k1, k2⟩ := chI c kr hA s
  exact ⟨n, k1, tn, fun j hj => by rw [k2]; exact sv j hj⟩
set_option maxRecDepth 100000 in
set_option maxHeartbeats 16000000 in
theorem x_tellAll {i n : Nat} (s : ShX h) (hD : D < 1000) (X : BsX h bs sa) (hi' : i < bs.length) (v : HtX h D l) (hn : n ≤ 99) : ∃ h', (∀ R, qMC (d + 3) 16 [.ref 19, .ref (sa i), .int (iN n)] h R ↔ R = (none, h')) ∧ ChX [20] [(19, 1), (19, 2)] 0 h h' ∧ HtX h' D (tellAll D l ((cnr bs i).map (scP n))) := by
  obtain ⟨qs, eqs⟩ : ∃ qs, qs = (cnr bs i).map (scP n) := ⟨_, rfl⟩
  have ql : qs.length = (cnr bs i).length := by rw [eqs, List.length_map]
  have qa : ∀ c, c < (cnr bs i).length → qs.getD c z4 = scP n ((cnr bs i).getD c z4) := fun c hc => by
    rw [eqs, List.getD_eq_getElem?_getD, List.getElem?_map, List.getElem?_eq_getElem hc, List.getD_eq_getElem?_getD, List.getElem?_eq_getElem hc]; rfl
  rw [← eqs]
  have go : ∀ (w c : Nat) (g : qH), c + w = (cnr bs i).length → ChX [20] [(19, 1), (19, 2)] 0 h g → HtX g D (tellAll D l (qs.take c)) → ∃ h', (∀ R, qEv (d + 2) 4 qk_16 2 [some (.ref 19), some (.ref (sa i)), some (.int (iN n)), some (.int (iN c))] [] g R ↔ R = (none, h')) ∧ ChX [20] [(19, 1), (19, 2)] 0 h h' ∧ HtX h' D (tellAll D l qs) := by
    intro w
    induction w with
    | zero =>
      intro c g hc cg vg
      have sg := cg.sh
      obtain ⟨p, q, w', e, B, S, P⟩ := (X.ch s cg (by decide) (by decide) (by decide)).at hi'
      obtain ⟨⟨u16, ult, uF⟩, g0, g1, g2, g3, g4, g5, g6⟩ := S.obj
      have n16 := P.2.1.2
      refine ⟨g, fun R => ?_, cg, by rw [show qs.take c = qs from List.take_of_length_le (by omega)] at vg; exact vg⟩
      rw [e16_2]
      simp (disch := first | assumption | omega) only [e16_0, e16_1, e16_3, e16_4, e16_7, e16_10, e16_11, e16_12, e16_15, e16_16, e16_17, e16_18, e16_19, e16_22, e16_25, e16_28, m16, ↓reduceIte, qg_0, qg_1, qg_2, qg_3, qg_4, qg_5, qg_6, qg_7, qg_8, qg_9, qg_10, qg_11, qg_12, qg_13, not_true_eq_false, not_false_eq_true, Nat.reduceBEq, Bool.false_eq_true, ex1, ex3, ex4, exF, qfit_i, qfit_l, qfit_r, qfit_n, qfit_b0, qfit_b1, qcat_i, qcat_r, qcat_n, qcat_l, qroom_0, qroom_c, List.map_cons, List.map_nil, List.sum_cons, List.sum_nil, Nat.reduceAdd, Nat.reduceMul, Nat.reduceLT, Nat.reduceLeDiff, Nat.reduceEqDiff, Nat.reduceSub, decide_true, true_and, and_true, and_self, if_true, if_false, Option.toList_some, Option.toList_none, List.cons_append, List.nil_append, qsL, qlong, List.length_cons, List.length_nil, iN_L, exI, iN_add, iN_mul, iN_le, iN_lt, iN_eq, Nat.le_refl, qfN0, qfN1, uX_16, vX_16, uX_19, vX_19, uX_27, vX_27, uX_30, vX_30, uX_39, vX_39, uX_41, vX_41, uX_43, vX_43, uX_46, vX_46, uX_50, vX_50, uX_53, vX_53, u16, ult, uF, g0, g1, g2, g3, g4, g5, g6, show (cnr bs i).length ≤ c by omega]
    | succ w ih =>
      intro c g hc cg vg
      have sg := cg.sh
      obtain ⟨p, q, w', e, B, S, P⟩ := (X.ch s cg (by decide) (by decide) (by decide)).at hi'
      obtain ⟨⟨u16, ult, uF⟩, g0, g1, g2, g3, g4, g5, g6⟩ := S.obj
      have n16 := P.2.1.2
      have hc' : c < (cnr bs i).length := by omega
      have sp : spX g p (c * 4) ((cnr bs i).getD c z4) := ⟨4 * (cnr bs i).length, S.2.2.1.2.1, by omega, fun k hk => ⟨S.2.2.1.2.2 c hc' k hk, P.2.2.1 c hc' k hk⟩⟩
      obtain ⟨g', rt, ct, vt⟩ := x_tellTimes (d := d) (n := n) sg hD vg sp (by omega) hn
      rw [← qa c hc', ← tellAll_take (by omega)] at vt
      obtain ⟨h', r', c', v'⟩ := ih (c + 1) g' (by omega) (cg.trans0 ct) vt
      refine ⟨h', fun R => ?_, c', v'⟩
      rw [← r' R, e16_2]
      simp (disch := first | assumption | omega) only [e16_0, e16_1, e16_3, e16_4, e16_7, e16_10, e16_11, e16_12, e16_15, e16_16, e16_17, e16_18, e16_19, e16_22, e16_25, e16_28, m16, ↓reduceIte, qg_0, qg_1, qg_2, qg_3, qg_4, qg_5, qg_6, qg_7, qg_8, qg_9, qg_10, qg_11, qg_12, qg_13, not_true_eq_false, not_false_eq_true, Nat.reduceBEq, Bool.false_eq_true, ex1, ex3, ex4, exF, qfit_i, qfit_l, qfit_r, qfit_n, qfit_b0, qfit_b1, qcat_i, qcat_r, qcat_n, qcat_l, qroom_0, qroom_c, List.map_cons, List.map_nil, List.sum_cons, List.sum_nil, Nat.reduceAdd, Nat.reduceMul, Nat.reduceLT, Nat.reduceLeDiff, Nat.reduceEqDiff, Nat.reduceSub, decide_true, true_and, and_true, and_self, if_true, if_false, Option.toList_some, Option.toList_none, List.cons_append, List.nil_append, qsL, qlong, List.length_cons, List.length_nil, iN_L, exI, iN_add, iN_mul, iN_le, iN_lt, iN_eq, Nat.le_refl, qfN0, qfN1, uX_16, vX_16, uX_19, vX_19, uX_27, vX_27, uX_30, vX_30, uX_39, vX_39, uX_41, vX_41, uX_43, vX_43, uX_46, vX_46, uX_50, vX_50, uX_53, vX_53, u16, ult, uF, g0, g1, g2, g3, g4, g5, g6, show ¬ (cnr bs i).length ≤ c by omega, rt]
  obtain ⟨h', r', c', v'⟩ := go (cnr bs i).length 0 h (by omega) (ChX.refl s) v
  refine ⟨h', fun R => ?_, c', v'⟩
  rw [← r' R]
  simp (disch := first | assumption | omega) only [e16_0, e16_1, e16_3, e16_4, e16_7, e16_10, e16_11, e16_12, e16_15, e16_16, e16_17, e16_18, e16_19, e16_22, e16_25, e16_28, m16, ↓reduceIte, qg_0, qg_1, qg_2, qg_3, qg_4, qg_5, qg_6, qg_7, qg_8, qg_9, qg_10, qg_11, qg_12, qg_13, not_true_eq_false, not_false_eq_true, Nat.reduceBEq, Bool.false_eq_true, ex1, ex3, ex4, exF, qfit_i, qfit_l, qfit_r, qfit_n, qfit_b0, qfit_b1, qcat_i, qcat_r, qcat_n, qcat_l, qroom_0, qroom_c, List.map_cons, List.map_nil, List.sum_cons, List.sum_nil, Nat.reduceAdd, Nat.reduceMul, Nat.reduceLT, Nat.reduceLeDiff, Nat.reduceEqDiff, Nat.reduceSub, decide_true, true_and, and_true, and_self, if_true, if_false, Option.toList_some, Option.toList_none, List.cons_append, List.nil_append, qsL, qlong, List.length_cons, List.length_nil, iN_L, exI, iN_add, iN_mul, iN_le, iN_lt, iN_eq, Nat.le_refl, qfN0, qfN1, uX_16, vX_16, uX_19, vX_19, uX_27, vX_27, uX_30, vX_30, uX_39, vX_39, uX_41, vX_41, uX_43, vX_43, uX_46, vX_46, uX_50, vX_50, uX_53, vX_53]
set_option maxRecDepth 100000 in
set_option maxHeartbeats 16000000 in
theorem x_tellAbove {x0 x1 x2 z : Int} {m : Nat} (s : ShX h) (hD : D < 1000) (v : HtX h D l) (hm : m < 1000) (b0 : iB x0) (b1 : iB x1) (b2 : iB x2) (bz : iB z) : ∃ h', (∀ R, qMC (d + 2) 18 [.ref 19, .int (iN m), .int (iZ x0), .int (iZ x1), .int (iZ x2), .int (iZ z)] h R ↔ R = (none, h')) ∧ ChX [20] [(19, 1), (19, 2)] 0 h h' ∧ HtX h' D (addP l (prj D (if m = 2 then (x0, x1, z, 0) else (x0, x1, x2, z)))) := by
  by_cases e : m = 2
  · have hq : ptB (x0, x1, z, 0) := fun k hk => by
      match k, hk with
      | 0, _ => exact b0
      | 1, _ => exact b1
      | 2, _ => exact bz
      | 3, _ => exact ⟨by show -1073741824 ≤ (0 : Int); omega, by show (0 : Int) ≤ 1073741824; omega⟩
    obtain ⟨h', r', c', v'⟩ := x_tell (d := d) (q := (x0, x1, z, 0)) s hD v hq
    rw [if_pos e]
    refine ⟨h', fun R => ?_, c', v'⟩
    have r2 : ∀ R, qMC (d + 1) 14 [.ref 19, .int (iZ x0), .int (iZ x1), .int (iZ z), .int (iN 0)] h R ↔ R = (none, h') := r'
    simp (disch := first | assumption | omega) only [e18_0, e18_1, e18_2, e18_5, e18_6, e18_7, e18_8, e18_10, e18_11, e18_14, e18_17, e18_18, e18_19, e18_20, e18_22, e18_24, e18_27, m18, ↓reduceIte, qg_0, qg_1, qg_2, qg_3, qg_4, qg_5, qg_6, qg_7, qg_8, qg_9, qg_10, qg_11, qg_12, qg_13, not_true_eq_false, not_false_eq_true, Nat.reduceBEq, Bool.false_eq_true, ex1, ex3, ex4, exF, qfit_i, qfit_l, qfit_r, qfit_n, qfit_b0, qfit_b1, qcat_i, qcat_r, qcat_n, qcat_l, qroom_0, qroom_c, List.map_cons, List.map_nil, List.sum_cons, List.sum_nil, Nat.reduceAdd, Nat.reduceMul, Nat.reduceLT, Nat.reduceLeDiff, Nat.reduceEqDiff, Nat.reduceSub, decide_true, true_and, and_true, and_self, if_true, if_false, Option.toList_some, Option.toList_none, List.cons_append, List.nil_append, qsL, qlong, List.length_cons, List.length_nil, iN_L, exI, iN_add, iN_mul, iN_le, iN_lt, iN_eq, Nat.le_refl, qfN0, qfN1, uX_16, vX_16, uX_19, vX_19, uX_27, vX_27, uX_30, vX_30, uX_39, vX_39, uX_41, vX_41, uX_43, vX_43, uX_46, vX_46, uX_50, vX_50, uX_53, vX_53, e, r2]
  · have hq : ptB (x0, x1, x2, z) := fun k hk => by
      match k, hk with
      | 0, _ => exact b0
      | 1, _ => exact b1
      | 2, _ => exact b2
      | 3, _ => exact bz
    obtain ⟨h', r', c', v'⟩ := x_tell (d := d) (q := (x0, x1, x2, z)) s hD v hq
    rw [if_neg e]
    refine ⟨h', fun R => ?_, c', v'⟩
    have r2 : ∀ R, qMC (d + 1) 14 [.ref 19, .int (iZ x0), .int (iZ x1), .int (iZ x2), .int (iZ z)] h R ↔ R = (none, h') := r'
    simp (disch := first | assumption | omega) only [e18_0, e18_1, e18_2, e18_5, e18_6, e18_7, e18_8, e18_10, e18_11, e18_14, e18_17, e18_18, e18_19, e18_20, e18_22, e18_24, e18_27, m18, ↓reduceIte, qg_0, qg_1, qg_2, qg_3, qg_4, qg_5, qg_6, qg_7, qg_8, qg_9, qg_10, qg_11, qg_12, qg_13, not_true_eq_false, not_false_eq_true, Nat.reduceBEq, Bool.false_eq_true, ex1, ex3, ex4, exF, qfit_i, qfit_l, qfit_r, qfit_n, qfit_b0, qfit_b1, qcat_i, qcat_r, qcat_n, qcat_l, qroom_0, qroom_c, List.map_cons, List.map_nil, List.sum_cons, List.sum_nil, Nat.reduceAdd, Nat.reduceMul, Nat.reduceLT, Nat.reduceLeDiff, Nat.reduceEqDiff, Nat.reduceSub, decide_true, true_and, and_true, and_self, if_true, if_false, Option.toList_some, Option.toList_none, List.cons_append, List.nil_append, qsL, qlong, List.length_cons, List.length_nil, iN_L, exI, iN_add, iN_mul, iN_le, iN_lt, iN_eq, Nat.le_refl, qfN0, qfN1, uX_16, vX_16, uX_19, vX_19, uX_27, vX_27, uX_30, vX_30, uX_39, vX_39, uX_41, vX_41, uX_43, vX_43, uX_46, vX_46, uX_50, vX_50, uX_53, vX_53, e, r2]
end XTELLS

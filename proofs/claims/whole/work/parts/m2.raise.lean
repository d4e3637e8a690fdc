/-! ===== THE CLASS: raise ===== -/
section XRAISE
variable {d D : Nat} {h : qH} {R : qRes} {l : List pt4} {bs : List bdy} {sa : Nat → Nat}
set_option maxRecDepth 100000 in
theorem x_absI {z : Int} (hz : iB z) : qMC (d + 1) 310 [.int (iZ z)] h R ↔ R = (some (.int (iN z.natAbs)), h) := by
  have b0 : iB 0 := by unfold iB; omega
  have ge := iZ_le b0 hz
  have e0 : iZ 0 = iN 0 := rfl
  rw [e0] at ge
  by_cases q : 0 ≤ z
  · have e : iN z.natAbs = iZ z := by rw [← iZ_nat]; congr 1; omega
    rw [e]
    simp (disch := first | assumption | omega) only [e310_0, e310_1, e310_4, e310_5, e310_6, e310_9, e310_10, m310, ↓reduceIte, qg_0, qg_1, qg_2, qg_3, qg_4, qg_5, qg_6, qg_7, qg_8, qg_9, qg_10, qg_11, qg_12, qg_13, not_true_eq_false, not_false_eq_true, Nat.reduceBEq, Bool.false_eq_true, ex1, ex3, ex4, exF, qfit_i, qfit_l, qfit_r, qfit_n, qfit_b0, qfit_b1, qcat_i, qcat_r, qcat_n, qcat_l, qroom_0, qroom_c, List.map_cons, List.map_nil, List.sum_cons, List.sum_nil, Nat.reduceAdd, Nat.reduceMul, Nat.reduceLT, Nat.reduceLeDiff, Nat.reduceEqDiff, Nat.reduceSub, decide_true, true_and, and_true, and_self, if_true, if_false, Option.toList_some, Option.toList_none, List.cons_append, List.nil_append, qsL, qlong, List.length_cons, List.length_nil, iN_L, exI, iN_add, iN_mul, iN_le, iN_lt, iN_eq, Nat.le_refl, qfN0, qfN1, uX_16, vX_16, uX_19, vX_19, uX_27, vX_27, uX_30, vX_30, uX_39, vX_39, uX_41, vX_41, uX_43, vX_43, uX_46, vX_46, uX_50, vX_50, uX_53, vX_53, ge, q]
  · have e : iN z.natAbs = iZ (-z) := by rw [← iZ_nat]; congr 1; omega
    rw [e]
    simp (disch := first | assumption | omega) only [e310_0, e310_1, e310_4, e310_5, e310_6, e310_9, e310_10, m310, ↓reduceIte, qg_0, qg_1, qg_2, qg_3, qg_4, qg_5, qg_6, qg_7, qg_8, qg_9, qg_10, qg_11, qg_12, qg_13, not_true_eq_false, not_false_eq_true, Nat.reduceBEq, Bool.false_eq_true, ex1, ex3, ex4, exF, qfit_i, qfit_l, qfit_r, qfit_n, qfit_b0, qfit_b1, qcat_i, qcat_r, qcat_n, qcat_l, qroom_0, qroom_c, List.map_cons, List.map_nil, List.sum_cons, List.sum_nil, Nat.reduceAdd, Nat.reduceMul, Nat.reduceLT, Nat.reduceLeDiff, Nat.reduceEqDiff, Nat.reduceSub, decide_true, true_and, and_true, and_self, if_true, if_false, Option.toList_some, Option.toList_none, List.cons_append, List.nil_append, qsL, qlong, List.length_cons, List.length_nil, iN_L, exI, iN_add, iN_mul, iN_le, iN_lt, iN_eq, Nat.le_refl, qfN0, qfN1, uX_16, vX_16, uX_19, vX_19, uX_27, vX_27, uX_30, vX_30, uX_39, vX_39, uX_41, vX_41, uX_43, vX_43, uX_46, vX_46, uX_50, vX_50, uX_53, vX_53, ge, q, iZ_neg]
/-- the greatest of the first of a list of numbers -/
def fMx (a : Nat → Nat) : Nat → Nat
  | 0 => 0
  | t + 1 => if fMx a t < a t then a t else fMx a t
theorem fMx_ge {a : Nat → Nat} {k : Nat} : ∀ {t : Nat}, k < t → a k ≤ fMx a t
  | 0, h => absurd h (Nat.not_lt_zero k)
  | t + 1, h => by
    rw [fMx]
    rcases Nat.lt_or_ge k t with z | z
    · have := fMx_ge (a := a) z
      split <;> omega
    · rw [show k = t by omega]
      split <;> omega
theorem fMx_at {a : Nat → Nat} : ∀ t, fMx a t = 0 ∨ ∃ k, k < t ∧ fMx a t = a k
  | 0 => Or.inl rfl
  | t + 1 => by
    rw [fMx]
    split
    · exact Or.inr ⟨t, by omega, rfl⟩
    · rcases fMx_at (a := a) t with z | ⟨k, h1, h2⟩
      · exact Or.inl z
      · exact Or.inr ⟨k, by omega, h2⟩
set_option maxRecDepth 100000 in
set_option maxHeartbeats 16000000 in
theorem x_farthest {a D : Nat} {sc : Int32} {cs : List pt4} {C : Nat → List Nat} {p q w e : Nat} {B : Nat → Nat} (S : SoD h a D sc cs C p q w e B) (P : SoP D cs C) : qMC (d + 2) 115 [.ref a] h R ↔ R = (some (.int (iN (fMx (fun t => (lP cs (t / 4) (t % 4)).natAbs) (4 * cs.length)))), h) := by
  obtain ⟨⟨u16, ult, uF⟩, g0, g1, g2, g3, g4, g5, g6⟩ := S.obj
  have n16 := P.2.1.2
  have ln := S.cp
  obtain ⟨f, ef⟩ : ∃ f : Nat → Nat, f = fun t => (lP cs (t / 4) (t % 4)).natAbs := ⟨_, rfl⟩
  have fb : ∀ t, t < 4 * cs.length → f t ≤ 999 := fun t ht => by
    have := P.2.2.1 (t / 4) (by omega) (t % 4) (by omega)
    rw [ef]; show (lP cs (t / 4) (t % 4)).natAbs ≤ 999; omega
  have mb : ∀ t, t ≤ 4 * cs.length → fMx f t ≤ 999 := fun t ht => by
    rcases fMx_at (a := f) t with z | ⟨k, h1, h2⟩
    · omega
    · have := fb k (by omega); omega
  rw [← ef]
  have r0 : qMC (d + 2) 115 [.ref a] h R ↔ qEv (d + 1) 0 qk_115 4 [some (.ref a), some (.int (iN (fMx f 0))), some (.int (iN 0))] [] h R := by
    rw [show fMx f 0 = 0 from rfl]
    simp (disch := first | assumption | omega) only [e115_0, e115_1, e115_2, e115_3, e115_5, e115_6, e115_9, e115_10, e115_13, e115_14, e115_15, e115_18, e115_19, e115_20, e115_23, e115_26, e115_27, e115_30, e115_33, e115_34, m115, ↓reduceIte, qg_0, qg_1, qg_2, qg_3, qg_4, qg_5, qg_6, qg_7, qg_8, qg_9, qg_10, qg_11, qg_12, qg_13, not_true_eq_false, not_false_eq_true, Nat.reduceBEq, Bool.false_eq_true, ex1, ex3, ex4, exF, qfit_i, qfit_l, qfit_r, qfit_n, qfit_b0, qfit_b1, qcat_i, qcat_r, qcat_n, qcat_l, qroom_0, qroom_c, List.map_cons, List.map_nil, List.sum_cons, List.sum_nil, Nat.reduceAdd, Nat.reduceMul, Nat.reduceLT, Nat.reduceLeDiff, Nat.reduceEqDiff, Nat.reduceSub, decide_true, true_and, and_true, and_self, if_true, if_false, Option.toList_some, Option.toList_none, List.cons_append, List.nil_append, qsL, qlong, List.length_cons, List.length_nil, iN_L, exI, iN_add, iN_mul, iN_le, iN_lt, iN_eq, Nat.le_refl, qfN0, qfN1, uX_16, vX_16, uX_19, vX_19, uX_27, vX_27, uX_30, vX_30, uX_39, vX_39, uX_41, vX_41, uX_43, vX_43, uX_46, vX_46, uX_50, vX_50, uX_53, vX_53]
  rw [r0]
  refine Iff.trans (loop_up (n := 4 * cs.length) (L := fun t => [some (.ref a), some (.int (iN (fMx f t))), some (.int (iN t))]) (H := fun _ => h) ?_) ?_
  · intro t ht
    try dsimp only
    have rd : qiald h p (iN t) = some (iZ (lP cs (t / 4) (t % 4))) := by
      have := S.pl (c := t / 4) (k := t % 4) (by omega) (by omega)
      rw [show t / 4 * 4 + t % 4 = t by omega] at this
      exact this
    have ab : ∀ R, qMC (d + 1) 310 [.int (iZ (lP cs (t / 4) (t % 4)))] h R ↔ R = (some (.int (iN (f t))), h) := fun R => by
      rw [ef]
      exact x_absI (by have := P.2.2.1 (t / 4) (by omega) (t % 4) (by omega); unfold iB; omega)
    have mt := mb t (by omega)
    have ft := fb t ht
    have mx : ∀ R, qMC (d + 1) 312 [.int (iN (fMx f t)), .int (iN (f t))] h R ↔ R = (some (.int (iN (fMx f (t + 1)))), h) := fun R => x_max (by omega) (by omega)
    rw [e115_4]
    simp (disch := first | assumption | omega) only [e115_0, e115_1, e115_2, e115_3, e115_5, e115_6, e115_9, e115_10, e115_13, e115_14, e115_15, e115_18, e115_19, e115_20, e115_23, e115_26, e115_27, e115_30, e115_33, e115_34, m115, ↓reduceIte, qg_0, qg_1, qg_2, qg_3, qg_4, qg_5, qg_6, qg_7, qg_8, qg_9, qg_10, qg_11, qg_12, qg_13, not_true_eq_false, not_false_eq_true, Nat.reduceBEq, Bool.false_eq_true, ex1, ex3, ex4, exF, qfit_i, qfit_l, qfit_r, qfit_n, qfit_b0, qfit_b1, qcat_i, qcat_r, qcat_n, qcat_l, qroom_0, qroom_c, List.map_cons, List.map_nil, List.sum_cons, List.sum_nil, Nat.reduceAdd, Nat.reduceMul, Nat.reduceLT, Nat.reduceLeDiff, Nat.reduceEqDiff, Nat.reduceSub, decide_true, true_and, and_true, and_self, if_true, if_false, Option.toList_some, Option.toList_none, List.cons_append, List.nil_append, qsL, qlong, List.length_cons, List.length_nil, iN_L, exI, iN_add, iN_mul, iN_le, iN_lt, iN_eq, Nat.le_refl, qfN0, qfN1, uX_16, vX_16, uX_19, vX_19, uX_27, vX_27, uX_30, vX_30, uX_39, vX_39, uX_41, vX_41, uX_43, vX_43, uX_46, vX_46, uX_50, vX_50, uX_53, vX_53, u16, ult, uF, g0, g1, g2, g3, g4, g5, g6, ln, show ¬ 4 * cs.length ≤ t by omega, rd, ab, mx]
  · try dsimp only
    rw [e115_4]
    simp (disch := first | assumption | omega) only [e115_0, e115_1, e115_2, e115_3, e115_5, e115_6, e115_9, e115_10, e115_13, e115_14, e115_15, e115_18, e115_19, e115_20, e115_23, e115_26, e115_27, e115_30, e115_33, e115_34, m115, ↓reduceIte, qg_0, qg_1, qg_2, qg_3, qg_4, qg_5, qg_6, qg_7, qg_8, qg_9, qg_10, qg_11, qg_12, qg_13, not_true_eq_false, not_false_eq_true, Nat.reduceBEq, Bool.false_eq_true, ex1, ex3, ex4, exF, qfit_i, qfit_l, qfit_r, qfit_n, qfit_b0, qfit_b1, qcat_i, qcat_r, qcat_n, qcat_l, qroom_0, qroom_c, List.map_cons, List.map_nil, List.sum_cons, List.sum_nil, Nat.reduceAdd, Nat.reduceMul, Nat.reduceLT, Nat.reduceLeDiff, Nat.reduceEqDiff, Nat.reduceSub, decide_true, true_and, and_true, and_self, if_true, if_false, Option.toList_some, Option.toList_none, List.cons_append, List.nil_append, qsL, qlong, List.length_cons, List.length_nil, iN_L, exI, iN_add, iN_mul, iN_le, iN_lt, iN_eq, Nat.le_refl, qfN0, qfN1, uX_16, vX_16, uX_19, vX_19, uX_27, vX_27, uX_30, vX_30, uX_39, vX_39, uX_41, vX_41, uX_43, vX_43, uX_46, vX_46, uX_50, vX_50, uX_53, vX_53, u16, ult, uF, g0, g1, g2, g3, g4, g5, g6, ln]
theorem tell_map (D : Nat) : ∀ (qs l : List pt4), tellAll D l qs = (qs.map (prj D)).foldl addP l := fun qs l => by unfold tellAll; rw [List.foldl_map]
theorem tell_cong {as cs : List pt4} (e : as.map (prj D) = cs.map (prj D)) (l : List pt4) : tellAll D l as = tellAll D l cs := by rw [tell_map, tell_map, e]
theorem pj_z {m : Nat} (hm : m = 2 ∨ m = 3) {q : pt4} (hq : prj m q = q) : (m = 2 → q.2.2.1 = 0) ∧ q.2.2.2 = 0 := by
  have h3 : (prj m q).2.2.2 = 0 := by
    show (if 3 < m then q.2.2.2 else 0) = 0
    exact if_neg (by omega)
  have h2 : m = 2 → (prj m q).2.2.1 = 0 := fun z => by
    show (if 2 < m then q.2.2.1 else 0) = 0
    exact if_neg (by omega)
  rw [hq] at h3 h2
  exact ⟨h2, h3⟩
theorem rs_base {m : Nat} (hm : m = 2 ∨ m = 3) {n : Int} {q : pt4} (hq : prj m q = q) : prj (m + 1) (scP n q) = prj (m + 1) (rsP m n 0 q) := by
  obtain ⟨z2, z3⟩ := pj_z hm hq
  rcases hm with rfl | rfl
  · show (q.1 * n, q.2.1 * n, q.2.2.1 * n, (0 : Int)) = (n * q.1, n * q.2.1, 0, 0)
    rw [z2 rfl, Int.zero_mul, Int.mul_comm q.1, Int.mul_comm q.2.1]
  · show (q.1 * n, q.2.1 * n, q.2.2.1 * n, q.2.2.2 * n) = (n * q.1, n * q.2.1, n * q.2.2.1, 0)
    rw [z3, Int.zero_mul, Int.mul_comm q.1, Int.mul_comm q.2.1, Int.mul_comm q.2.2.1]
theorem rz_lid {m : Nat} (hm : m = 2 ∨ m = 3) {z : Int} {q : pt4} : prj (m + 1) (lftP m q z) = prj (m + 1) (rsP m 1 z q) := by
  rcases hm with rfl | rfl
  · show (q.1, q.2.1, z, (0 : Int)) = (1 * q.1, 1 * q.2.1, z, 0)
    rw [Int.one_mul, Int.one_mul]
  · show (q.1, q.2.1, q.2.2.1, z) = (1 * q.1, 1 * q.2.1, 1 * q.2.2.1, z)
    rw [Int.one_mul, Int.one_mul, Int.one_mul]
theorem rz_tip {m : Nat} (hm : m = 2 ∨ m = 3) {z : Int} {cs : List pt4} : prj (m + 1) (lftP m (smC cs cs.length 0, smC cs cs.length 1, smC cs cs.length 2, 0) z) = prj (m + 1) (tpP m cs z) := by
  rcases hm with rfl | rfl <;> rfl
theorem rs_one {m : Nat} (hm : m = 2 ∨ m = 3) {z : Int} {cs : List pt4} : prj (m + 1) (lftP m (smC cs 1 0, smC cs 1 1, smC cs 1 2, 0) z) = prj (m + 1) (rsP m 1 z (cs.getD 0 z4)) := by
  have e : ∀ k, smC cs 1 k = co (cs.getD 0 z4) k := fun k => by show 0 + lP cs 0 k = _; rw [Int.zero_add]; rfl
  rw [e, e, e, ← rz_lid hm]
  rcases hm with rfl | rfl <;> rfl
theorem rs_top {m : Nat} (hm : m = 2 ∨ m = 3) (n z : Int) (q : pt4) : co (prj (m + 1) (rsP m n z q)) m = z := by
  rcases hm with rfl | rfl <;> rfl
theorem tp_top {m : Nat} (hm : m = 2 ∨ m = 3) (z : Int) (cs : List pt4) : co (prj (m + 1) (tpP m cs z)) m = z := by
  rcases hm with rfl | rfl <;> rfl
theorem rs_inj {m : Nat} (hm : m = 2 ∨ m = 3) {n z : Int} (hn : 0 < n) {q r : pt4} (hq : prj m q = q) (hr : prj m r = r) (e : prj (m + 1) (rsP m n z q) = prj (m + 1) (rsP m n z r)) : q = r := by
  obtain ⟨a2, a3⟩ := pj_z hm hq
  obtain ⟨b2, b3⟩ := pj_z hm hr
  have c : ∀ x y : Int, n * x = n * y → x = y := fun x y h => Int.eq_of_mul_eq_mul_left (by omega) h
  have e0 := congrArg (fun p => co p 0) e
  have e1 := congrArg (fun p => co p 1) e
  have h0 : q.1 = r.1 := c _ _ e0
  have h1 : q.2.1 = r.2.1 := c _ _ e1
  rcases hm with rfl | rfl
  · exact pt_ext.mpr ⟨h0, h1, by show q.2.2.1 = r.2.2.1; rw [a2 rfl, b2 rfl], by show q.2.2.2 = r.2.2.2; rw [a3, b3]⟩
  · have e2 := congrArg (fun p => co p 2) e
    have h2 : q.2.2.1 = r.2.2.1 := c _ _ e2
    exact pt_ext.mpr ⟨h0, h1, h2, by show q.2.2.2 = r.2.2.2; rw [a3, b3]⟩
/-- what is told when a body is raised -/
def rsQ (m : Nat) (cs : List pt4) (k : Nat) (z : Int) : List pt4 := rsL m (if k = 2 then cs.length else 1 : Nat) 0 cs ++ if k = 0 then rsL m (1 : Nat) z cs else if k = 1 then (rsL m (1 : Nat) z cs).take 1 else [tpP m cs z, tpP m cs (-z)]
theorem nd_app {α : Type} {a b : List α} (ha : a.Nodup) (hb : b.Nodup) (h : ∀ x, x ∈ a → ∀ y, y ∈ b → x ≠ y) : (a ++ b).Nodup := List.nodup_append.mpr ⟨ha, hb, h⟩
theorem rsL_nd {m : Nat} (hm : m = 2 ∨ m = 3) {n z : Int} (hn : 0 < n) {cs : List pt4} (nd : cs.Nodup) (pj : ∀ q, q ∈ cs → prj m q = q) : ((rsL m n z cs).map (prj (m + 1))).Nodup := by
  unfold rsL
  rw [List.map_map, List.Nodup, List.pairwise_map]
  refine List.Pairwise.imp_of_mem ?_ nd
  intro x y hx hy hxy e
  exact hxy (rs_inj hm hn (pj x hx) (pj y hy) e)
theorem rsL_top {m : Nat} (hm : m = 2 ∨ m = 3) {n z : Int} {cs : List pt4} {x : pt4} (hx : x ∈ (rsL m n z cs).map (prj (m + 1))) : co x m = z := by
  obtain ⟨y, hy, rfl⟩ := List.mem_map.mp hx
  obtain ⟨q, -, rfl⟩ := List.mem_map.mp hy
  exact rs_top hm n z q
theorem rsQ_nd {m k : Nat} (hm : m = 2 ∨ m = 3) {z : Int} (hz : 0 < z) {cs : List pt4} (nd : cs.Nodup) (pj : ∀ q, q ∈ cs → prj m q = q) (h0 : 0 < cs.length) (hk : k ≤ 2) : ((rsQ m cs k z).map (prj (m + 1))).Nodup ∧ (rsQ m cs k z).length = cs.length + if k = 0 then cs.length else k := by
  have nn : 0 < (((if k = 2 then cs.length else 1 : Nat)) : Int) := by split <;> omega
  have A := rsL_nd hm nn (z := 0) nd pj
  have At : ∀ x, x ∈ (rsL m ((if k = 2 then cs.length else 1 : Nat) : Int) 0 cs).map (prj (m + 1)) → co x m = 0 := fun x hx => rsL_top hm hx
  have B := rsL_nd (n := ((1 : Nat) : Int)) (z := z) hm (by decide) nd pj
  have ll : ∀ n z, (rsL m n z cs).length = cs.length := fun n z => List.length_map ..
  unfold rsQ
  rw [List.map_append, List.length_append, ll]
  by_cases k0 : k = 0
  · rw [if_pos k0, if_pos k0, ll]
    refine ⟨nd_app A B fun x hx y hy e => ?_, rfl⟩
    have := At x hx
    have := rsL_top hm hy
    rw [e] at *
    omega
  · rw [if_neg k0, if_neg k0]
    by_cases k1 : k = 1
    · rw [if_pos k1]
      refine ⟨nd_app A ?_ fun x hx y hy e => ?_, by rw [List.length_take, ll]; omega⟩
      · rw [List.map_take]
        exact List.Sublist.nodup (List.take_sublist _ _) B
      · have := At x hx
        rw [List.map_take] at hy
        have := rsL_top hm (List.mem_of_mem_take hy)
        rw [e] at *
        omega
    · rw [if_neg k1]
      refine ⟨nd_app A ?_ fun x hx y hy e => ?_, by show cs.length + 2 = _; omega⟩
      · show [prj (m + 1) (tpP m cs z), prj (m + 1) (tpP m cs (-z))].Nodup
        rw [List.nodup_cons]
        refine ⟨fun w => ?_, by simp⟩
        have e := List.mem_singleton.mp w
        have t1 := tp_top hm z cs
        have t2 := tp_top hm (-z) cs
        rw [e] at t1
        omega
      · have t0 := At x hx
        have hy' : y ∈ [prj (m + 1) (tpP m cs z), prj (m + 1) (tpP m cs (-z))] := hy
        simp only [List.mem_cons, List.not_mem_nil, or_false] at hy'
        rcases hy' with w | w
        · rw [e, w, tp_top hm] at t0; omega
        · rw [e, w, tp_top hm] at t0; omega
theorem pj_sm {q : pt4} (h : ∀ t, t < 4 → -999 ≤ co q t ∧ co q t ≤ 999) (D : Nat) : ∀ t, t < 4 → -999 ≤ co (prj D q) t ∧ co (prj D q) t ≤ 999 := prj_sm h
theorem rs_sm {m : Nat} {n z : Int} {q : pt4} (hz : -999 ≤ z ∧ z ≤ 999) (h : ∀ t, t < 4 → -999 ≤ n * co q t ∧ n * co q t ≤ 999) : ∀ t, t < 4 → -999 ≤ co (rsP m n z q) t ∧ co (rsP m n z q) t ≤ 999 := by
  intro t ht
  match t, ht with
  | 0, _ => exact h 0 (by decide)
  | 1, _ => exact h 1 (by decide)
  | 2, _ => show -999 ≤ (if m = 2 then z else n * q.2.2.1) ∧ (if m = 2 then z else n * q.2.2.1) ≤ 999; split; exact hz; exact h 2 (by decide)
  | 3, _ => exact hz
theorem abs_mul {a : Int} {n f : Nat} (h : a.natAbs ≤ f) : -((n * f : Nat) : Int) ≤ (n : Int) * a ∧ (n : Int) * a ≤ ((n * f : Nat) : Int) := by
  have : ((n : Int) * a).natAbs ≤ n * f := by rw [Int.natAbs_mul]; exact Nat.mul_le_mul (Nat.le_refl _) h
  omega
theorem sumC_far {cs : List pt4} {f k : Nat} (h : ∀ c, c < cs.length → (lP cs c k).natAbs ≤ f) : -((cs.length * f : Nat) : Int) ≤ sumC cs k cs.length ∧ sumC cs k cs.length ≤ ((cs.length * f : Nat) : Int) := by
  have := sumZ_b (m := cs.length) (f := fun c => lP cs c k) (B := f) fun c hc => by have := h c hc; omega
  show -((cs.length * f : Nat) : Int) ≤ sumZ (fun c => lP cs c k) cs.length ∧ _
  rw [Int.natCast_mul]
  exact this
/-- the points told are small, if the farthest times their number is -/
theorem rsQ_sm {m k : Nat} (hm : m = 2 ∨ m = 3) {z : Nat} (hz : 1 ≤ z ∧ z ≤ 99) {cs : List pt4} (sm : smP cs) (pj : ∀ q, q ∈ cs → prj m q = q) (hk : k ≤ 2) : smP (tellAll (m + 1) [] (rsQ m cs k z)) ∨ (k = 2 ∧ 999 < fMx (fun t => (lP cs (t / 4) (t % 4)).natAbs) (4 * cs.length) * cs.length) := by
  obtain ⟨F, eF⟩ : ∃ F, F = fMx (fun t => (lP cs (t / 4) (t % 4)).natAbs) (4 * cs.length) := ⟨_, rfl⟩
  rw [← eF]
  by_cases q : k = 2 ∧ 999 < F * cs.length
  · exact Or.inr q
  · left
    refine tell_sm fun p hp => ?_
    have fa : ∀ c, c < cs.length → ∀ t, t < 4 → (lP cs c t).natAbs ≤ F := fun c hc t ht => by
      have := fMx_ge (a := fun t => (lP cs (t / 4) (t % 4)).natAbs) (k := c * 4 + t) (t := 4 * cs.length) (by omega)
      rw [← eF, show (c * 4 + t) / 4 = c by omega, show (c * 4 + t) % 4 = t by omega] at this
      exact this
    have base : ∀ (n : Nat) (w : Int), (-999 ≤ w ∧ w ≤ 999) → (n = 1 ∨ (k = 2 ∧ n = cs.length)) → ∀ p, p ∈ rsL m n w cs → ∀ t, t < 4 → -999 ≤ co p t ∧ co p t ≤ 999 := fun n w hw hn p hp => by
      obtain ⟨x, hx, rfl⟩ := List.mem_map.mp hp
      refine rs_sm hw fun t ht => ?_
      rcases hn with rfl | ⟨k2, rfl⟩
      · have := sm x hx t ht
        show -999 ≤ ((1 : Nat) : Int) * co x t ∧ ((1 : Nat) : Int) * co x t ≤ 999
        omega
      · obtain ⟨c, hc, e⟩ := List.getElem_of_mem hx
        have h1 := fa c hc t ht
        unfold lP at h1
        rw [lP_at hc, e] at h1
        have h2 := abs_mul (n := cs.length) h1
        have h3 : ¬ 999 < F * cs.length := fun z => q ⟨k2, z⟩
        rw [Nat.mul_comm] at h3
        omega
    unfold rsQ at hp
    rcases List.mem_append.mp hp with hp | hp
    · refine base _ 0 (by decide) ?_ p hp
      by_cases k2 : k = 2
      · exact Or.inr ⟨k2, if_pos k2⟩
      · exact Or.inl (if_neg k2)
    · by_cases k0 : k = 0
      · rw [if_pos k0] at hp
        exact base 1 z (by omega) (Or.inl rfl) p hp
      · rw [if_neg k0] at hp
        by_cases k1 : k = 1
        · rw [if_pos k1] at hp
          exact base 1 z (by omega) (Or.inl rfl) p (List.mem_of_mem_take hp)
        · rw [if_neg k1] at hp
          have k2 : k = 2 := by omega
          have h3 : ¬ 999 < F * cs.length := fun z => q ⟨k2, z⟩
          rw [Nat.mul_comm] at h3
          have tb : ∀ w : Int, (-999 ≤ w ∧ w ≤ 999) → ∀ t, t < 4 → -999 ≤ co (tpP m cs w) t ∧ co (tpP m cs w) t ≤ 999 := fun w hw t ht => by
            have s0 := sumC_far (k := 0) fun c hc => fa c hc 0 (by decide)
            have s1 := sumC_far (k := 1) fun c hc => fa c hc 1 (by decide)
            have s2 := sumC_far (k := 2) fun c hc => fa c hc 2 (by decide)
            match t, ht with
            | 0, _ => show -999 ≤ sumC cs 0 cs.length ∧ sumC cs 0 cs.length ≤ 999; omega
            | 1, _ => show -999 ≤ sumC cs 1 cs.length ∧ sumC cs 1 cs.length ≤ 999; omega
            | 2, _ => show -999 ≤ (if m = 2 then w else sumC cs 2 cs.length) ∧ (if m = 2 then w else sumC cs 2 cs.length) ≤ 999; split <;> omega
            | 3, _ => exact hw
          simp only [List.mem_cons, List.not_mem_nil, or_false] at hp
          rcases hp with rfl | rfl
          · exact tb z (by omega)
          · exact tb (-z) (by omega)
theorem rsQ_large {m k : Nat} (hm : m = 2 ∨ m = 3) {z : Nat} (hz : 1 ≤ z ∧ z ≤ 99) {cs : List pt4} (nd : cs.Nodup) (pj : ∀ q, q ∈ cs → prj m q = q) (h0 : 0 < cs.length) (k2 : k = 2) (hl : 999 < fMx (fun t => (lP cs (t / 4) (t % 4)).natAbs) (4 * cs.length) * cs.length) : ¬ smP (tellAll (m + 1) [] (rsQ m cs k z)) := by
  obtain ⟨nd', -⟩ := rsQ_nd (k := k) hm (show 0 < (z : Int) by omega) nd pj h0 (by omega)
  rw [tell_new _ _ (by rw [List.nil_append]; exact nd'), List.nil_append]
  intro sm
  rcases fMx_at (a := fun t => (lP cs (t / 4) (t % 4)).natAbs) (4 * cs.length) with w | ⟨t, ht, w⟩
  · rw [w, Nat.zero_mul] at hl; omega
  · rw [w] at hl
    have hc : t / 4 < cs.length := by omega
    have hx : cs.getD (t / 4) z4 ∈ cs := by rw [lP_at hc]; exact List.getElem_mem hc
    have hq := pj _ hx
    obtain ⟨z2, z3⟩ := pj_z hm hq
    have mem : prj (m + 1) (rsP m ((if k = 2 then cs.length else 1 : Nat) : Int) 0 (cs.getD (t / 4) z4)) ∈ (rsQ m cs k z).map (prj (m + 1)) := by
      unfold rsQ
      rw [List.map_append]
      exact List.mem_append.mpr (Or.inl (List.mem_map.mpr ⟨_, List.mem_map.mpr ⟨_, hx, rfl⟩, rfl⟩))
    rw [if_pos k2] at mem
    have e : ∀ j, j < m → co (prj (m + 1) (rsP m (cs.length : Int) 0 (cs.getD (t / 4) z4))) j = cs.length * co (cs.getD (t / 4) z4) j := fun j hj => by
      rcases hm with rfl | rfl
      · match j, hj with
        | 0, _ => rfl
        | 1, _ => rfl
      · match j, hj with
        | 0, _ => rfl
        | 1, _ => rfl
        | 2, _ => rfl
    have tm : t % 4 < m := Classical.byContradiction fun y => by
      have : lP cs (t / 4) (t % 4) = 0 := by
        show co (cs.getD (t / 4) z4) (t % 4) = 0
        rcases hm with rfl | rfl
        · rcases (show t % 4 = 2 ∨ t % 4 = 3 by omega) with w | w <;> rw [w]
          · exact z2 rfl
          · exact z3
        · rw [show t % 4 = 3 by omega]; exact z3
      rw [this] at hl
      simp at hl
    have b := sm _ mem (t % 4) (by omega)
    rw [e _ tm] at b
    have : ((cs.length : Int) * co (cs.getD (t / 4) z4) (t % 4)).natAbs = (lP cs (t / 4) (t % 4)).natAbs * cs.length := by
      rw [Int.natAbs_mul, Nat.mul_comm]; rfl
    omega
set_option maxRecDepth 100000 in
set_option maxHeartbeats 16000000 in
theorem x_raise {x y w v : Int32} {bs' : List bdy} (s : ShX h) (X : BsX h bs sa) (hv : rsR bs x y w v bs') : ∃ h' sa', (∀ R, qMC (d + 8) 139 [.ref 16, .int x, .int y, .int w] h R ↔ R = (some (.int v), h')) ∧ ChX bdA bdJ 16 h h' ∧ BsX h' bs' sa' := by
  rcases hv with ⟨hx, rfl, eb⟩ | ⟨i, ⟨hi', rfl⟩, hv⟩
  · have b : ∀ R, qMC (d + 7) 179 [.ref 16, .int x] h R ↔ R = (some .null, h) := fun R => x_bodyAt0 s X hx
    refine ⟨h, sa, fun R => ?_, ChX.refl s, by rw [eb]; exact X⟩
    simp (disch := first | assumption | omega) only [e139_0, e139_1, e139_2, e139_5, e139_7, e139_9, e139_9N, e139_12, e139_15, e139_16, e139_17, e139_20, e139_21, e139_22, e139_25, e139_26, e139_27, e139_30, e139_31, e139_33, e139_36, e139_38, e139_41, e139_42, e139_45, e139_48, e139_49, e139_50, e139_53, e139_55, e139_58, e139_61, e139_62, e139_64, e139_65, e139_68, e139_70, e139_73, e139_75, e139_78, e139_80, e139_81, e139_83, e139_86, e139_89, e139_90, e139_91, e139_92, e139_95, e139_97, e139_100, e139_102, e139_105, e139_106, e139_109, e139_112, e139_115, e139_116, e139_117, e139_120, e139_122, e139_125, e139_126, e139_127, e139_130, e139_131, e139_134, e139_136, e139_137, e139_138, e139_141, e139_143, e139_146, e139_149, e139_150, e139_153, e139_154, e139_157, e139_158, e139_161, e139_163, e139_164, e139_167, e139_170, e139_171, e139_172, e139_175, e139_176, e139_179, e139_181, e139_182, e139_183, e139_186, e139_189, e139_190, e139_193, e139_195, e139_197, e139_200, e139_201, e139_204, e139_205, e139_208, e139_210, e139_212, e139_215, e139_216, e139_217, e139_220, e139_221, e139_222, e139_225, m139, ↓reduceIte, qg_0, qg_1, qg_2, qg_3, qg_4, qg_5, qg_6, qg_7, qg_8, qg_9, qg_10, qg_11, qg_12, qg_13, not_true_eq_false, not_false_eq_true, Nat.reduceBEq, Bool.false_eq_true, ex1, ex3, ex4, exF, qfit_i, qfit_l, qfit_r, qfit_n, qfit_b0, qfit_b1, qcat_i, qcat_r, qcat_n, qcat_l, qroom_0, qroom_c, List.map_cons, List.map_nil, List.sum_cons, List.sum_nil, Nat.reduceAdd, Nat.reduceMul, Nat.reduceLT, Nat.reduceLeDiff, Nat.reduceEqDiff, Nat.reduceSub, decide_true, true_and, and_true, and_self, if_true, if_false, Option.toList_some, Option.toList_none, List.cons_append, List.nil_append, qsL, qlong, List.length_cons, List.length_nil, iN_L, exI, iN_add, iN_mul, iN_le, iN_lt, iN_eq, Nat.le_refl, qfN0, qfN1, uX_16, vX_16, uX_19, vX_19, uX_27, vX_27, uX_30, vX_30, uX_39, vX_39, uX_41, vX_41, uX_43, vX_43, uX_46, vX_46, uX_50, vX_50, uX_53, vX_53, b]
  · have b : ∀ R, qMC (d + 7) 179 [.ref 16, .int (iN i)] h R ↔ R = (some (.ref (sa i)), h) := fun R => x_bodyAt1 s X hi'
    obtain ⟨p, q, w', e, B, S, P⟩ := X.at hi'
    obtain ⟨⟨u16, ult, uF⟩, g0, g1, g2, g3, g4, g5, g6⟩ := S.obj
    have hD := P.1
    have n16 := P.2.1.2
    have nD := P.2.1.1
    have m0 := X.2.1
    have b24 := X.1
    rcases hv with ⟨hn, rfl, eb⟩ | ⟨k, z, ⟨hk, rfl⟩, ⟨hz, rfl⟩, d4, hv⟩
    · refine ⟨h, sa, fun R => ?_, ChX.refl s, by rw [eb]; exact X⟩
      by_cases q1 : y < iN 0
      · simp (disch := first | assumption | omega) only [e139_0, e139_1, e139_2, e139_5, e139_7, e139_9, e139_9N, e139_12, e139_15, e139_16, e139_17, e139_20, e139_21, e139_22, e139_25, e139_26, e139_27, e139_30, e139_31, e139_33, e139_36, e139_38, e139_41, e139_42, e139_45, e139_48, e139_49, e139_50, e139_53, e139_55, e139_58, e139_61, e139_62, e139_64, e139_65, e139_68, e139_70, e139_73, e139_75, e139_78, e139_80, e139_81, e139_83, e139_86, e139_89, e139_90, e139_91, e139_92, e139_95, e139_97, e139_100, e139_102, e139_105, e139_106, e139_109, e139_112, e139_115, e139_116, e139_117, e139_120, e139_122, e139_125, e139_126, e139_127, e139_130, e139_131, e139_134, e139_136, e139_137, e139_138, e139_141, e139_143, e139_146, e139_149, e139_150, e139_153, e139_154, e139_157, e139_158, e139_161, e139_163, e139_164, e139_167, e139_170, e139_171, e139_172, e139_175, e139_176, e139_179, e139_181, e139_182, e139_183, e139_186, e139_189, e139_190, e139_193, e139_195, e139_197, e139_200, e139_201, e139_204, e139_205, e139_208, e139_210, e139_212, e139_215, e139_216, e139_217, e139_220, e139_221, e139_222, e139_225, m139, ↓reduceIte, qg_0, qg_1, qg_2, qg_3, qg_4, qg_5, qg_6, qg_7, qg_8, qg_9, qg_10, qg_11, qg_12, qg_13, not_true_eq_false, not_false_eq_true, Nat.reduceBEq, Bool.false_eq_true, ex1, ex3, ex4, exF, qfit_i, qfit_l, qfit_r, qfit_n, qfit_b0, qfit_b1, qcat_i, qcat_r, qcat_n, qcat_l, qroom_0, qroom_c, List.map_cons, List.map_nil, List.sum_cons, List.sum_nil, Nat.reduceAdd, Nat.reduceMul, Nat.reduceLT, Nat.reduceLeDiff, Nat.reduceEqDiff, Nat.reduceSub, decide_true, true_and, and_true, and_self, if_true, if_false, Option.toList_some, Option.toList_none, List.cons_append, List.nil_append, qsL, qlong, List.length_cons, List.length_nil, iN_L, exI, iN_add, iN_mul, iN_le, iN_lt, iN_eq, Nat.le_refl, qfN0, qfN1, uX_16, vX_16, uX_19, vX_19, uX_27, vX_27, uX_30, vX_30, uX_39, vX_39, uX_41, vX_41, uX_43, vX_43, uX_46, vX_46, uX_50, vX_50, uX_53, vX_53, b, q1]
      · by_cases q2 : iN 2 < y
        · simp (disch := first | assumption | omega) only [e139_0, e139_1, e139_2, e139_5, e139_7, e139_9, e139_9N, e139_12, e139_15, e139_16, e139_17, e139_20, e139_21, e139_22, e139_25, e139_26, e139_27, e139_30, e139_31, e139_33, e139_36, e139_38, e139_41, e139_42, e139_45, e139_48, e139_49, e139_50, e139_53, e139_55, e139_58, e139_61, e139_62, e139_64, e139_65, e139_68, e139_70, e139_73, e139_75, e139_78, e139_80, e139_81, e139_83, e139_86, e139_89, e139_90, e139_91, e139_92, e139_95, e139_97, e139_100, e139_102, e139_105, e139_106, e139_109, e139_112, e139_115, e139_116, e139_117, e139_120, e139_122, e139_125, e139_126, e139_127, e139_130, e139_131, e139_134, e139_136, e139_137, e139_138, e139_141, e139_143, e139_146, e139_149, e139_150, e139_153, e139_154, e139_157, e139_158, e139_161, e139_163, e139_164, e139_167, e139_170, e139_171, e139_172, e139_175, e139_176, e139_179, e139_181, e139_182, e139_183, e139_186, e139_189, e139_190, e139_193, e139_195, e139_197, e139_200, e139_201, e139_204, e139_205, e139_208, e139_210, e139_212, e139_215, e139_216, e139_217, e139_220, e139_221, e139_222, e139_225, m139, ↓reduceIte, qg_0, qg_1, qg_2, qg_3, qg_4, qg_5, qg_6, qg_7, qg_8, qg_9, qg_10, qg_11, qg_12, qg_13, not_true_eq_false, not_false_eq_true, Nat.reduceBEq, Bool.false_eq_true, ex1, ex3, ex4, exF, qfit_i, qfit_l, qfit_r, qfit_n, qfit_b0, qfit_b1, qcat_i, qcat_r, qcat_n, qcat_l, qroom_0, qroom_c, List.map_cons, List.map_nil, List.sum_cons, List.sum_nil, Nat.reduceAdd, Nat.reduceMul, Nat.reduceLT, Nat.reduceLeDiff, Nat.reduceEqDiff, Nat.reduceSub, decide_true, true_and, and_true, and_self, if_true, if_false, Option.toList_some, Option.toList_none, List.cons_append, List.nil_append, qsL, qlong, List.length_cons, List.length_nil, iN_L, exI, iN_add, iN_mul, iN_le, iN_lt, iN_eq, Nat.le_refl, qfN0, qfN1, uX_16, vX_16, uX_19, vX_19, uX_27, vX_27, uX_30, vX_30, uX_39, vX_39, uX_41, vX_41, uX_43, vX_43, uX_46, vX_46, uX_50, vX_50, uX_53, vX_53, b, q1, q2]
        · by_cases q3 : w < iN 1
          · simp (disch := first | assumption | omega) only [e139_0, e139_1, e139_2, e139_5, e139_7, e139_9, e139_9N, e139_12, e139_15, e139_16, e139_17, e139_20, e139_21, e139_22, e139_25, e139_26, e139_27, e139_30, e139_31, e139_33, e139_36, e139_38, e139_41, e139_42, e139_45, e139_48, e139_49, e139_50, e139_53, e139_55, e139_58, e139_61, e139_62, e139_64, e139_65, e139_68, e139_70, e139_73, e139_75, e139_78, e139_80, e139_81, e139_83, e139_86, e139_89, e139_90, e139_91, e139_92, e139_95, e139_97, e139_100, e139_102, e139_105, e139_106, e139_109, e139_112, e139_115, e139_116, e139_117, e139_120, e139_122, e139_125, e139_126, e139_127, e139_130, e139_131, e139_134, e139_136, e139_137, e139_138, e139_141, e139_143, e139_146, e139_149, e139_150, e139_153, e139_154, e139_157, e139_158, e139_161, e139_163, e139_164, e139_167, e139_170, e139_171, e139_172, e139_175, e139_176, e139_179, e139_181, e139_182, e139_183, e139_186, e139_189, e139_190, e139_193, e139_195, e139_197, e139_200, e139_201, e139_204, e139_205, e139_208, e139_210, e139_212, e139_215, e139_216, e139_217, e139_220, e139_221, e139_222, e139_225, m139, ↓reduceIte, qg_0, qg_1, qg_2, qg_3, qg_4, qg_5, qg_6, qg_7, qg_8, qg_9, qg_10, qg_11, qg_12, qg_13, not_true_eq_false, not_false_eq_true, Nat.reduceBEq, Bool.false_eq_true, ex1, ex3, ex4, exF, qfit_i, qfit_l, qfit_r, qfit_n, qfit_b0, qfit_b1, qcat_i, qcat_r, qcat_n, qcat_l, qroom_0, qroom_c, List.map_cons, List.map_nil, List.sum_cons, List.sum_nil, Nat.reduceAdd, Nat.reduceMul, Nat.reduceLT, Nat.reduceLeDiff, Nat.reduceEqDiff, Nat.reduceSub, decide_true, true_and, and_true, and_self, if_true, if_false, Option.toList_some, Option.toList_none, List.cons_append, List.nil_append, qsL, qlong, List.length_cons, List.length_nil, iN_L, exI, iN_add, iN_mul, iN_le, iN_lt, iN_eq, Nat.le_refl, qfN0, qfN1, uX_16, vX_16, uX_19, vX_19, uX_27, vX_27, uX_30, vX_30, uX_39, vX_39, uX_41, vX_41, uX_43, vX_43, uX_46, vX_46, uX_50, vX_50, uX_53, vX_53, b, q1, q2, q3]
          · by_cases q4 : iN 99 < w
            · simp (disch := first | assumption | omega) only [e139_0, e139_1, e139_2, e139_5, e139_7, e139_9, e139_9N, e139_12, e139_15, e139_16, e139_17, e139_20, e139_21, e139_22, e139_25, e139_26, e139_27, e139_30, e139_31, e139_33, e139_36, e139_38, e139_41, e139_42, e139_45, e139_48, e139_49, e139_50, e139_53, e139_55, e139_58, e139_61, e139_62, e139_64, e139_65, e139_68, e139_70, e139_73, e139_75, e139_78, e139_80, e139_81, e139_83, e139_86, e139_89, e139_90, e139_91, e139_92, e139_95, e139_97, e139_100, e139_102, e139_105, e139_106, e139_109, e139_112, e139_115, e139_116, e139_117, e139_120, e139_122, e139_125, e139_126, e139_127, e139_130, e139_131, e139_134, e139_136, e139_137, e139_138, e139_141, e139_143, e139_146, e139_149, e139_150, e139_153, e139_154, e139_157, e139_158, e139_161, e139_163, e139_164, e139_167, e139_170, e139_171, e139_172, e139_175, e139_176, e139_179, e139_181, e139_182, e139_183, e139_186, e139_189, e139_190, e139_193, e139_195, e139_197, e139_200, e139_201, e139_204, e139_205, e139_208, e139_210, e139_212, e139_215, e139_216, e139_217, e139_220, e139_221, e139_222, e139_225, m139, ↓reduceIte, qg_0, qg_1, qg_2, qg_3, qg_4, qg_5, qg_6, qg_7, qg_8, qg_9, qg_10, qg_11, qg_12, qg_13, not_true_eq_false, not_false_eq_true, Nat.reduceBEq, Bool.false_eq_true, ex1, ex3, ex4, exF, qfit_i, qfit_l, qfit_r, qfit_n, qfit_b0, qfit_b1, qcat_i, qcat_r, qcat_n, qcat_l, qroom_0, qroom_c, List.map_cons, List.map_nil, List.sum_cons, List.sum_nil, Nat.reduceAdd, Nat.reduceMul, Nat.reduceLT, Nat.reduceLeDiff, Nat.reduceEqDiff, Nat.reduceSub, decide_true, true_and, and_true, and_self, if_true, if_false, Option.toList_some, Option.toList_none, List.cons_append, List.nil_append, qsL, qlong, List.length_cons, List.length_nil, iN_L, exI, iN_add, iN_mul, iN_le, iN_lt, iN_eq, Nat.le_refl, qfN0, qfN1, uX_16, vX_16, uX_19, vX_19, uX_27, vX_27, uX_30, vX_30, uX_39, vX_39, uX_41, vX_41, uX_43, vX_43, uX_46, vX_46, uX_50, vX_50, uX_53, vX_53, b, q1, q2, q3, q4]
            · have q5 : dmn bs i = 4 := Classical.byContradiction fun z => hn ⟨by
                rw [ltN_0] at q1
                rw [Int32.lt_iff_toInt_lt, iN_int (by omega)] at q2
                exact ⟨y.toInt.toNat, by omega, by rw [← Int32.toInt_inj, iN_int (by omega)]; omega⟩, by
                rw [Int32.lt_iff_toInt_lt, iN_int (by omega)] at q3 q4
                exact ⟨w.toInt.toNat, by omega, by rw [← Int32.toInt_inj, iN_int (by omega)]; omega⟩, z⟩
              simp (disch := first | assumption | omega) only [e139_0, e139_1, e139_2, e139_5, e139_7, e139_9, e139_9N, e139_12, e139_15, e139_16, e139_17, e139_20, e139_21, e139_22, e139_25, e139_26, e139_27, e139_30, e139_31, e139_33, e139_36, e139_38, e139_41, e139_42, e139_45, e139_48, e139_49, e139_50, e139_53, e139_55, e139_58, e139_61, e139_62, e139_64, e139_65, e139_68, e139_70, e139_73, e139_75, e139_78, e139_80, e139_81, e139_83, e139_86, e139_89, e139_90, e139_91, e139_92, e139_95, e139_97, e139_100, e139_102, e139_105, e139_106, e139_109, e139_112, e139_115, e139_116, e139_117, e139_120, e139_122, e139_125, e139_126, e139_127, e139_130, e139_131, e139_134, e139_136, e139_137, e139_138, e139_141, e139_143, e139_146, e139_149, e139_150, e139_153, e139_154, e139_157, e139_158, e139_161, e139_163, e139_164, e139_167, e139_170, e139_171, e139_172, e139_175, e139_176, e139_179, e139_181, e139_182, e139_183, e139_186, e139_189, e139_190, e139_193, e139_195, e139_197, e139_200, e139_201, e139_204, e139_205, e139_208, e139_210, e139_212, e139_215, e139_216, e139_217, e139_220, e139_221, e139_222, e139_225, m139, ↓reduceIte, qg_0, qg_1, qg_2, qg_3, qg_4, qg_5, qg_6, qg_7, qg_8, qg_9, qg_10, qg_11, qg_12, qg_13, not_true_eq_false, not_false_eq_true, Nat.reduceBEq, Bool.false_eq_true, ex1, ex3, ex4, exF, qfit_i, qfit_l, qfit_r, qfit_n, qfit_b0, qfit_b1, qcat_i, qcat_r, qcat_n, qcat_l, qroom_0, qroom_c, List.map_cons, List.map_nil, List.sum_cons, List.sum_nil, Nat.reduceAdd, Nat.reduceMul, Nat.reduceLT, Nat.reduceLeDiff, Nat.reduceEqDiff, Nat.reduceSub, decide_true, true_and, and_true, and_self, if_true, if_false, Option.toList_some, Option.toList_none, List.cons_append, List.nil_append, qsL, qlong, List.length_cons, List.length_nil, iN_L, exI, iN_add, iN_mul, iN_le, iN_lt, iN_eq, Nat.le_refl, qfN0, qfN1, uX_16, vX_16, uX_19, vX_19, uX_27, vX_27, uX_30, vX_30, uX_39, vX_39, uX_41, vX_41, uX_43, vX_43, uX_46, vX_46, uX_50, vX_50, uX_53, vX_53, b, q1, q2, q3, q4, u16, ult, uF, g0, g1, g2, g3, g4, g5, g6, q5]
    · have hm : dmn bs i = 2 ∨ dmn bs i = 3 := by omega
      have okb := X.ok hi'
      have cnd : (cnr bs i).Nodup := crn_nd okb
      have cpj : ∀ q, q ∈ cnr bs i → prj (dmn bs i) q = q := fun q hq => crn_pj okb hq
      obtain ⟨nd', ln'⟩ := rsQ_nd (k := k) hm (show 0 < (z : Int) by omega) cnd cpj (by omega) hk
      have eN : rsN bs i k z = tellAll (dmn bs i + 1) [] (rsQ (dmn bs i) (cnr bs i) k z) := rfl
      have eN2 : rsN bs i k z = (rsQ (dmn bs i) (cnr bs i) k z).map (prj (dmn bs i + 1)) := by rw [eN, tell_new _ _ (by rw [List.nil_append]; exact nd'), List.nil_append]
      have lN : (rsN bs i k z).length = (cnr bs i).length + if k = 0 then (cnr bs i).length else k := by rw [eN2, List.length_map, ln']
      obtain ⟨mo, emo⟩ : ∃ mo, mo = if k = 0 then (cnr bs i).length else k := ⟨_, rfl⟩
      rw [← emo] at lN
      have mo16 : mo ≤ 16 := by rw [emo]; split <;> omega
      have r0 : ∀ R, qMC (d + 8) 139 [.ref 16, .int (iN i), .int (iN k), .int (iN z)] h R ↔ qEv (d + 7) 0 qk_139 64 [some (.ref 16), some (.int (iN i)), some (.int (iN k)), some (.int (iN z)), some (.ref (sa i)), some (.int (iN mo))] [] h R := fun R => by
        rw [emo]
        by_cases k0 : k = 0
        · rw [if_pos k0]
          simp (disch := first | assumption | omega) only [e139_0, e139_1, e139_2, e139_5, e139_7, e139_9, e139_9N, e139_12, e139_15, e139_16, e139_17, e139_20, e139_21, e139_22, e139_25, e139_26, e139_27, e139_30, e139_31, e139_33, e139_36, e139_38, e139_41, e139_42, e139_45, e139_48, e139_49, e139_50, e139_53, e139_55, e139_58, e139_61, e139_62, e139_65, e139_68, e139_70, e139_73, e139_75, e139_78, e139_80, e139_81, e139_83, e139_86, e139_89, e139_90, e139_91, e139_92, e139_95, e139_97, e139_100, e139_102, e139_105, e139_106, e139_109, e139_112, e139_115, e139_116, e139_117, e139_120, e139_122, e139_125, e139_126, e139_127, e139_130, e139_131, e139_134, e139_136, e139_137, e139_138, e139_141, e139_143, e139_146, e139_149, e139_150, e139_153, e139_154, e139_157, e139_158, e139_161, e139_163, e139_164, e139_167, e139_170, e139_171, e139_172, e139_175, e139_176, e139_179, e139_181, e139_182, e139_183, e139_186, e139_189, e139_190, e139_193, e139_195, e139_197, e139_200, e139_201, e139_204, e139_205, e139_208, e139_210, e139_212, e139_215, e139_216, e139_217, e139_220, e139_221, e139_222, e139_225, m139, ↓reduceIte, qg_0, qg_1, qg_2, qg_3, qg_4, qg_5, qg_6, qg_7, qg_8, qg_9, qg_10, qg_11, qg_12, qg_13, not_true_eq_false, not_false_eq_true, Nat.reduceBEq, Bool.false_eq_true, ex1, ex3, ex4, exF, qfit_i, qfit_l, qfit_r, qfit_n, qfit_b0, qfit_b1, qcat_i, qcat_r, qcat_n, qcat_l, qroom_0, qroom_c, List.map_cons, List.map_nil, List.sum_cons, List.sum_nil, Nat.reduceAdd, Nat.reduceMul, Nat.reduceLT, Nat.reduceLeDiff, Nat.reduceEqDiff, Nat.reduceSub, decide_true, true_and, and_true, and_self, if_true, if_false, Option.toList_some, Option.toList_none, List.cons_append, List.nil_append, qsL, qlong, List.length_cons, List.length_nil, iN_L, exI, iN_add, iN_mul, iN_le, iN_lt, iN_eq, Nat.le_refl, qfN0, qfN1, uX_16, vX_16, uX_19, vX_19, uX_27, vX_27, uX_30, vX_30, uX_39, vX_39, uX_41, vX_41, uX_43, vX_43, uX_46, vX_46, uX_50, vX_50, uX_53, vX_53, b, show ¬ k < 0 by omega, show ¬ 2 < k by omega, show ¬ z < 1 by omega, show ¬ 99 < z by omega, u16, ult, uF, g0, g1, g2, g3, g4, g5, g6, d4, k0]
        · rw [if_neg k0]
          simp (disch := first | assumption | omega) only [e139_0, e139_1, e139_2, e139_5, e139_7, e139_9, e139_9N, e139_12, e139_15, e139_16, e139_17, e139_20, e139_21, e139_22, e139_25, e139_26, e139_27, e139_30, e139_31, e139_33, e139_36, e139_38, e139_41, e139_42, e139_45, e139_48, e139_49, e139_50, e139_53, e139_55, e139_58, e139_61, e139_62, e139_65, e139_68, e139_70, e139_73, e139_75, e139_78, e139_80, e139_81, e139_83, e139_86, e139_89, e139_90, e139_91, e139_92, e139_95, e139_97, e139_100, e139_102, e139_105, e139_106, e139_109, e139_112, e139_115, e139_116, e139_117, e139_120, e139_122, e139_125, e139_126, e139_127, e139_130, e139_131, e139_134, e139_136, e139_137, e139_138, e139_141, e139_143, e139_146, e139_149, e139_150, e139_153, e139_154, e139_157, e139_158, e139_161, e139_163, e139_164, e139_167, e139_170, e139_171, e139_172, e139_175, e139_176, e139_179, e139_181, e139_182, e139_183, e139_186, e139_189, e139_190, e139_193, e139_195, e139_197, e139_200, e139_201, e139_204, e139_205, e139_208, e139_210, e139_212, e139_215, e139_216, e139_217, e139_220, e139_221, e139_222, e139_225, m139, ↓reduceIte, qg_0, qg_1, qg_2, qg_3, qg_4, qg_5, qg_6, qg_7, qg_8, qg_9, qg_10, qg_11, qg_12, qg_13, not_true_eq_false, not_false_eq_true, Nat.reduceBEq, Bool.false_eq_true, ex1, ex3, ex4, exF, qfit_i, qfit_l, qfit_r, qfit_n, qfit_b0, qfit_b1, qcat_i, qcat_r, qcat_n, qcat_l, qroom_0, qroom_c, List.map_cons, List.map_nil, List.sum_cons, List.sum_nil, Nat.reduceAdd, Nat.reduceMul, Nat.reduceLT, Nat.reduceLeDiff, Nat.reduceEqDiff, Nat.reduceSub, decide_true, true_and, and_true, and_self, if_true, if_false, Option.toList_some, Option.toList_none, List.cons_append, List.nil_append, qsL, qlong, List.length_cons, List.length_nil, iN_L, exI, iN_add, iN_mul, iN_le, iN_lt, iN_eq, Nat.le_refl, qfN0, qfN1, uX_16, vX_16, uX_19, vX_19, uX_27, vX_27, uX_30, vX_30, uX_39, vX_39, uX_41, vX_41, uX_43, vX_43, uX_46, vX_46, uX_50, vX_50, uX_53, vX_53, b, show ¬ k < 0 by omega, show ¬ 2 < k by omega, show ¬ z < 1 by omega, show ¬ 99 < z by omega, u16, ult, uF, g0, g1, g2, g3, g4, g5, g6, d4, k0]
      by_cases full : bs.length = 24 ∨ 16 < (cnr bs i).length + mo
      · rcases hv with ⟨-, rfl, eb⟩ | ⟨⟨z1, z2⟩, -⟩ | ⟨⟨z1, z2⟩, -⟩ | ⟨⟨z1, z2⟩, -⟩
        · refine ⟨h, sa, fun R => ?_, ChX.refl s, by rw [eb]; exact X⟩
          rw [r0 R, e139_64]
          by_cases z' : bs.length = 24
          · simp (disch := first | assumption | omega) only [e139_0, e139_1, e139_2, e139_5, e139_7, e139_9, e139_9N, e139_12, e139_15, e139_16, e139_17, e139_20, e139_21, e139_22, e139_25, e139_26, e139_27, e139_30, e139_31, e139_33, e139_36, e139_38, e139_41, e139_42, e139_45, e139_48, e139_49, e139_50, e139_53, e139_55, e139_58, e139_61, e139_62, e139_65, e139_68, e139_70, e139_73, e139_75, e139_78, e139_80, e139_81, e139_83, e139_86, e139_89, e139_90, e139_91, e139_92, e139_95, e139_97, e139_100, e139_102, e139_105, e139_106, e139_109, e139_112, e139_115, e139_116, e139_117, e139_120, e139_122, e139_125, e139_126, e139_127, e139_130, e139_131, e139_134, e139_136, e139_137, e139_138, e139_141, e139_143, e139_146, e139_149, e139_150, e139_153, e139_154, e139_157, e139_158, e139_161, e139_163, e139_164, e139_167, e139_170, e139_171, e139_172, e139_175, e139_176, e139_179, e139_181, e139_182, e139_183, e139_186, e139_189, e139_190, e139_193, e139_195, e139_197, e139_200, e139_201, e139_204, e139_205, e139_208, e139_210, e139_212, e139_215, e139_216, e139_217, e139_220, e139_221, e139_222, e139_225, m139, ↓reduceIte, qg_0, qg_1, qg_2, qg_3, qg_4, qg_5, qg_6, qg_7, qg_8, qg_9, qg_10, qg_11, qg_12, qg_13, not_true_eq_false, not_false_eq_true, Nat.reduceBEq, Bool.false_eq_true, ex1, ex3, ex4, exF, qfit_i, qfit_l, qfit_r, qfit_n, qfit_b0, qfit_b1, qcat_i, qcat_r, qcat_n, qcat_l, qroom_0, qroom_c, List.map_cons, List.map_nil, List.sum_cons, List.sum_nil, Nat.reduceAdd, Nat.reduceMul, Nat.reduceLT, Nat.reduceLeDiff, Nat.reduceEqDiff, Nat.reduceSub, decide_true, true_and, and_true, and_self, if_true, if_false, Option.toList_some, Option.toList_none, List.cons_append, List.nil_append, qsL, qlong, List.length_cons, List.length_nil, iN_L, exI, iN_add, iN_mul, iN_le, iN_lt, iN_eq, Nat.le_refl, qfN0, qfN1, uX_16, vX_16, uX_19, vX_19, uX_27, vX_27, uX_30, vX_30, uX_39, vX_39, uX_41, vX_41, uX_43, vX_43, uX_46, vX_46, uX_50, vX_50, uX_53, vX_53, gX_16_1, m0, z']
          · have gt : ¬ (cnr bs i).length + mo ≤ 16 := by have := full.resolve_left z'; omega
            simp (disch := first | assumption | omega) only [e139_0, e139_1, e139_2, e139_5, e139_7, e139_9, e139_9N, e139_12, e139_15, e139_16, e139_17, e139_20, e139_21, e139_22, e139_25, e139_26, e139_27, e139_30, e139_31, e139_33, e139_36, e139_38, e139_41, e139_42, e139_45, e139_48, e139_49, e139_50, e139_53, e139_55, e139_58, e139_61, e139_62, e139_65, e139_68, e139_70, e139_73, e139_75, e139_78, e139_80, e139_81, e139_83, e139_86, e139_89, e139_90, e139_91, e139_92, e139_95, e139_97, e139_100, e139_102, e139_105, e139_106, e139_109, e139_112, e139_115, e139_116, e139_117, e139_120, e139_122, e139_125, e139_126, e139_127, e139_130, e139_131, e139_134, e139_136, e139_137, e139_138, e139_141, e139_143, e139_146, e139_149, e139_150, e139_153, e139_154, e139_157, e139_158, e139_161, e139_163, e139_164, e139_167, e139_170, e139_171, e139_172, e139_175, e139_176, e139_179, e139_181, e139_182, e139_183, e139_186, e139_189, e139_190, e139_193, e139_195, e139_197, e139_200, e139_201, e139_204, e139_205, e139_208, e139_210, e139_212, e139_215, e139_216, e139_217, e139_220, e139_221, e139_222, e139_225, m139, ↓reduceIte, qg_0, qg_1, qg_2, qg_3, qg_4, qg_5, qg_6, qg_7, qg_8, qg_9, qg_10, qg_11, qg_12, qg_13, not_true_eq_false, not_false_eq_true, Nat.reduceBEq, Bool.false_eq_true, ex1, ex3, ex4, exF, qfit_i, qfit_l, qfit_r, qfit_n, qfit_b0, qfit_b1, qcat_i, qcat_r, qcat_n, qcat_l, qroom_0, qroom_c, List.map_cons, List.map_nil, List.sum_cons, List.sum_nil, Nat.reduceAdd, Nat.reduceMul, Nat.reduceLT, Nat.reduceLeDiff, Nat.reduceEqDiff, Nat.reduceSub, decide_true, true_and, and_true, and_self, if_true, if_false, Option.toList_some, Option.toList_none, List.cons_append, List.nil_append, qsL, qlong, List.length_cons, List.length_nil, iN_L, exI, iN_add, iN_mul, iN_le, iN_lt, iN_eq, Nat.le_refl, qfN0, qfN1, uX_16, vX_16, uX_19, vX_19, uX_27, vX_27, uX_30, vX_30, uX_39, vX_39, uX_41, vX_41, uX_43, vX_43, uX_46, vX_46, uX_50, vX_50, uX_53, vX_53, gX_16_1, m0, show ¬ 24 ≤ bs.length by omega, u16, ult, uF, g0, g1, g2, g3, g4, g5, g6, gt]
        all_goals omega
      · have lt1 : ¬ 24 ≤ bs.length := by omega
        have lt2 : (cnr bs i).length + mo ≤ 16 := by omega
        obtain ⟨F, eF⟩ : ∃ F, F = fMx (fun t => (lP (cnr bs i) (t / 4) (t % 4)).natAbs) (4 * (cnr bs i).length) := ⟨_, rfl⟩
        have fa : ∀ R, qMC (d + 7) 115 [.ref (sa i)] h R ↔ R = (some (.int (iN F)), h) := fun R => by rw [eF]; exact x_farthest S P
        have F9 : F ≤ 999 := by
          rw [eF]
          rcases fMx_at (a := fun t => (lP (cnr bs i) (t / 4) (t % 4)).natAbs) (4 * (cnr bs i).length) with z | ⟨t, h1, h2⟩
          · omega
          · rw [h2]
            have := P.2.2.1 (t / 4) (by omega) (t % 4) (by omega)
            show (lP (cnr bs i) (t / 4) (t % 4)).natAbs ≤ 999
            omega
        have Fn : F * (cnr bs i).length ≤ 999 * 16 := Nat.mul_le_mul F9 n16
        by_cases lg : k = 2 ∧ 999 < F * (cnr bs i).length
        · have nsm : ¬ smP (rsN bs i k z) := by rw [eN]; exact rsQ_large hm hz cnd cpj (by omega) lg.1 (by rw [← eF]; exact lg.2)
          rcases hv with ⟨z1, -⟩ | ⟨-, -, rfl, eb⟩ | ⟨-, z1, -⟩ | ⟨-, z1, -⟩
          · omega
          · refine ⟨h, sa, fun R => ?_, ChX.refl s, by rw [eb]; exact X⟩
            rw [r0 R, e139_64]
            simp (disch := first | assumption | omega) only [e139_0, e139_1, e139_2, e139_5, e139_7, e139_9, e139_9N, e139_12, e139_15, e139_16, e139_17, e139_20, e139_21, e139_22, e139_25, e139_26, e139_27, e139_30, e139_31, e139_33, e139_36, e139_38, e139_41, e139_42, e139_45, e139_48, e139_49, e139_50, e139_53, e139_55, e139_58, e139_61, e139_62, e139_65, e139_68, e139_70, e139_73, e139_75, e139_78, e139_80, e139_81, e139_83, e139_86, e139_89, e139_90, e139_91, e139_92, e139_95, e139_97, e139_100, e139_102, e139_105, e139_106, e139_109, e139_112, e139_115, e139_116, e139_117, e139_120, e139_122, e139_125, e139_126, e139_127, e139_130, e139_131, e139_134, e139_136, e139_137, e139_138, e139_141, e139_143, e139_146, e139_149, e139_150, e139_153, e139_154, e139_157, e139_158, e139_161, e139_163, e139_164, e139_167, e139_170, e139_171, e139_172, e139_175, e139_176, e139_179, e139_181, e139_182, e139_183, e139_186, e139_189, e139_190, e139_193, e139_195, e139_197, e139_200, e139_201, e139_204, e139_205, e139_208, e139_210, e139_212, e139_215, e139_216, e139_217, e139_220, e139_221, e139_222, e139_225, m139, ↓reduceIte, qg_0, qg_1, qg_2, qg_3, qg_4, qg_5, qg_6, qg_7, qg_8, qg_9, qg_10, qg_11, qg_12, qg_13, not_true_eq_false, not_false_eq_true, Nat.reduceBEq, Bool.false_eq_true, ex1, ex3, ex4, exF, qfit_i, qfit_l, qfit_r, qfit_n, qfit_b0, qfit_b1, qcat_i, qcat_r, qcat_n, qcat_l, qroom_0, qroom_c, List.map_cons, List.map_nil, List.sum_cons, List.sum_nil, Nat.reduceAdd, Nat.reduceMul, Nat.reduceLT, Nat.reduceLeDiff, Nat.reduceEqDiff, Nat.reduceSub, decide_true, true_and, and_true, and_self, if_true, if_false, Option.toList_some, Option.toList_none, List.cons_append, List.nil_append, qsL, qlong, List.length_cons, List.length_nil, iN_L, exI, iN_add, iN_mul, iN_le, iN_lt, iN_eq, Nat.le_refl, qfN0, qfN1, uX_16, vX_16, uX_19, vX_19, uX_27, vX_27, uX_30, vX_30, uX_39, vX_39, uX_41, vX_41, uX_43, vX_43, uX_46, vX_46, uX_50, vX_50, uX_53, vX_53, gX_16_1, m0, lt1, u16, ult, uF, g0, g1, g2, g3, g4, g5, g6, lt2, lg.1, fa, show ¬ F * (cnr bs i).length ≤ 999 by omega]
          · exact absurd z1 nsm
          · exact absurd z1 nsm
        · have sm : smP (rsN bs i k z) := by
            rw [eN]
            rcases rsQ_sm hm hz P.sm cpj hk with z' | z'
            · exact z'
            · rw [← eF] at z'; exact absurd z' lg
          have eD : iN (dmn bs i) + iN 1 = iN (dmn bs i + 1) := iN_add _ _
          obtain ⟨h1, r1, c1, t1⟩ := x_begin (d := d + 6) s (iN (dmn bs i + 1)) rfl
          have s1 := c1.sh
          have X1 := X.ch s c1 (by decide) (by decide) (by decide)
          obtain ⟨nn, enn⟩ : ∃ nn : Nat, nn = if k = 2 then (cnr bs i).length else 1 := ⟨_, rfl⟩
          have nn16 : nn ≤ 16 := by rw [enn]; split <;> omega
          obtain ⟨h2, r2, c2, t2⟩ := x_tellAll (d := d + 4) (n := nn) s1 (show dmn bs i + 1 < 1000 by omega) X1 hi' t1 (by omega)
          have s2 := c2.sh
          have X2 := X1.ch s1 c2 (by decide) (by decide) (by decide)
          have e1 : tellAll (dmn bs i + 1) [] ((cnr bs i).map (scP nn)) = tellAll (dmn bs i + 1) [] (rsL (dmn bs i) ((if k = 2 then (cnr bs i).length else 1 : Nat) : Int) 0 (cnr bs i)) := tell_cong (by
            rw [← enn]
            unfold rsL
            rw [List.map_map, List.map_map]
            exact List.map_congr_left fun q hq => rs_base hm (cpj q hq)) []
          rw [e1] at t2
          obtain ⟨p2, q2, w2, e2, B2, S2, P2⟩ := X1.at hi'
          obtain ⟨⟨u16', ult', uF'⟩, g0', g1', g2', g3', g4', g5', g6'⟩ := S2.obj
          obtain ⟨p3, q3, w3, e3, B3, S3, P3⟩ := X2.at hi'
          have ch2 : ChX [20] [(19, 1), (19, 2), (19, 3)] 0 h h2 := (c1.mono (by decide) (by decide) (Nat.le_refl _)).trans0 (c2.mono (by decide) (by decide) (Nat.le_refl _))
          have r3 : ∀ R, qMC (d + 8) 139 [.ref 16, .int (iN i), .int (iN k), .int (iN z)] h R ↔ qEv (d + 7) 0 qk_139 153 [some (.ref 16), some (.int (iN i)), some (.int (iN k)), some (.int (iN z)), some (.ref (sa i)), some (.int (iN mo))] [] h2 R := fun R => by
            rw [r0 R, e139_64]
            by_cases k2 : k = 2
            · have lg' : F * (cnr bs i).length ≤ 999 := by have : ¬ 999 < F * (cnr bs i).length := fun z => lg ⟨k2, z⟩; omega
              rw [if_pos k2] at enn
              rw [enn] at r2
              simp (disch := first | assumption | omega) only [e139_0, e139_1, e139_2, e139_5, e139_7, e139_9, e139_9N, e139_12, e139_15, e139_16, e139_17, e139_20, e139_21, e139_22, e139_25, e139_26, e139_27, e139_30, e139_31, e139_33, e139_36, e139_38, e139_41, e139_42, e139_45, e139_48, e139_49, e139_50, e139_53, e139_55, e139_58, e139_61, e139_62, e139_65, e139_68, e139_70, e139_73, e139_75, e139_78, e139_80, e139_81, e139_83, e139_86, e139_89, e139_90, e139_91, e139_92, e139_95, e139_97, e139_100, e139_102, e139_105, e139_106, e139_109, e139_112, e139_115, e139_116, e139_117, e139_120, e139_122, e139_125, e139_126, e139_127, e139_130, e139_131, e139_134, e139_136, e139_137, e139_138, e139_141, e139_143, e139_146, e139_149, e139_150, e139_154, e139_157, e139_158, e139_161, e139_163, e139_164, e139_167, e139_170, e139_171, e139_172, e139_175, e139_176, e139_179, e139_181, e139_182, e139_183, e139_186, e139_189, e139_190, e139_193, e139_195, e139_197, e139_200, e139_201, e139_204, e139_205, e139_208, e139_210, e139_212, e139_215, e139_216, e139_217, e139_220, e139_221, e139_222, e139_225, m139, ↓reduceIte, qg_0, qg_1, qg_2, qg_3, qg_4, qg_5, qg_6, qg_7, qg_8, qg_9, qg_10, qg_11, qg_12, qg_13, not_true_eq_false, not_false_eq_true, Nat.reduceBEq, Bool.false_eq_true, ex1, ex3, ex4, exF, qfit_i, qfit_l, qfit_r, qfit_n, qfit_b0, qfit_b1, qcat_i, qcat_r, qcat_n, qcat_l, qroom_0, qroom_c, List.map_cons, List.map_nil, List.sum_cons, List.sum_nil, Nat.reduceAdd, Nat.reduceMul, Nat.reduceLT, Nat.reduceLeDiff, Nat.reduceEqDiff, Nat.reduceSub, decide_true, true_and, and_true, and_self, if_true, if_false, Option.toList_some, Option.toList_none, List.cons_append, List.nil_append, qsL, qlong, List.length_cons, List.length_nil, iN_L, exI, iN_add, iN_mul, iN_le, iN_lt, iN_eq, Nat.le_refl, qfN0, qfN1, uX_16, vX_16, uX_19, vX_19, uX_27, vX_27, uX_30, vX_30, uX_39, vX_39, uX_41, vX_41, uX_43, vX_43, uX_46, vX_46, uX_50, vX_50, uX_53, vX_53, gX_16_1, m0, lt1, u16, ult, uF, g0, g1, g2, g3, g4, g5, g6, lt2, k2, fa, lg', gX_16_4, eD, r1, u16', ult', uF', g0', g1', g2', g3', g4', g5', g6', r2]
            · rw [if_neg k2] at enn
              rw [enn] at r2
              simp (disch := first | assumption | omega) only [e139_0, e139_1, e139_2, e139_5, e139_7, e139_9, e139_9N, e139_12, e139_15, e139_16, e139_17, e139_20, e139_21, e139_22, e139_25, e139_26, e139_27, e139_30, e139_31, e139_33, e139_36, e139_38, e139_41, e139_42, e139_45, e139_48, e139_49, e139_50, e139_53, e139_55, e139_58, e139_61, e139_62, e139_65, e139_68, e139_70, e139_73, e139_75, e139_78, e139_80, e139_81, e139_83, e139_86, e139_89, e139_90, e139_91, e139_92, e139_95, e139_97, e139_100, e139_102, e139_105, e139_106, e139_109, e139_112, e139_115, e139_116, e139_117, e139_120, e139_122, e139_125, e139_126, e139_127, e139_130, e139_131, e139_134, e139_136, e139_137, e139_138, e139_141, e139_143, e139_146, e139_149, e139_150, e139_154, e139_157, e139_158, e139_161, e139_163, e139_164, e139_167, e139_170, e139_171, e139_172, e139_175, e139_176, e139_179, e139_181, e139_182, e139_183, e139_186, e139_189, e139_190, e139_193, e139_195, e139_197, e139_200, e139_201, e139_204, e139_205, e139_208, e139_210, e139_212, e139_215, e139_216, e139_217, e139_220, e139_221, e139_222, e139_225, m139, ↓reduceIte, qg_0, qg_1, qg_2, qg_3, qg_4, qg_5, qg_6, qg_7, qg_8, qg_9, qg_10, qg_11, qg_12, qg_13, not_true_eq_false, not_false_eq_true, Nat.reduceBEq, Bool.false_eq_true, ex1, ex3, ex4, exF, qfit_i, qfit_l, qfit_r, qfit_n, qfit_b0, qfit_b1, qcat_i, qcat_r, qcat_n, qcat_l, qroom_0, qroom_c, List.map_cons, List.map_nil, List.sum_cons, List.sum_nil, Nat.reduceAdd, Nat.reduceMul, Nat.reduceLT, Nat.reduceLeDiff, Nat.reduceEqDiff, Nat.reduceSub, decide_true, true_and, and_true, and_self, if_true, if_false, Option.toList_some, Option.toList_none, List.cons_append, List.nil_append, qsL, qlong, List.length_cons, List.length_nil, iN_L, exI, iN_add, iN_mul, iN_le, iN_lt, iN_eq, Nat.le_refl, qfN0, qfN1, uX_16, vX_16, uX_19, vX_19, uX_27, vX_27, uX_30, vX_30, uX_39, vX_39, uX_41, vX_41, uX_43, vX_43, uX_46, vX_46, uX_50, vX_50, uX_53, vX_53, gX_16_1, m0, lt1, u16, ult, uF, g0, g1, g2, g3, g4, g5, g6, lt2, k2, gX_16_4, eD, r1, u16', ult', uF', g0', g1', g2', g3', g4', g5', g6', r2]
          have fin : ∃ h3, (∀ R, qEv (d + 7) 0 qk_139 153 [some (.ref 16), some (.int (iN i)), some (.int (iN k)), some (.int (iN z)), some (.ref (sa i)), some (.int (iN mo))] [] h2 R ↔ qEv (d + 7) 0 qk_139 220 [some (.ref 16), some (.int (iN i)), some (.int (iN k)), some (.int (iN z)), some (.ref (sa i)), some (.int (iN mo))] [] h3 R) ∧ ChX [20] [(19, 1), (19, 2), (19, 3)] 0 h h3 ∧ HtX h3 (dmn bs i + 1) (rsN bs i k z) := by
            rcases (show k = 0 ∨ k = 1 ∨ k = 2 by omega) with k0 | k0 | k0
            · subst k0
              obtain ⟨h3, r3', c3, t3⟩ := x_tellLid (d := d + 4) (z := z) s2 (show dmn bs i + 1 < 1000 by omega) X2 hi' t2 (by omega)
              refine ⟨h3, fun R => ?_, ch2.trans0 (c3.mono (by decide) (by decide) (Nat.le_refl _)), ?_⟩
              · rw [e139_153]
                simp (disch := first | assumption | omega) only [e139_0, e139_1, e139_2, e139_5, e139_7, e139_9, e139_9N, e139_12, e139_15, e139_16, e139_17, e139_20, e139_21, e139_22, e139_25, e139_26, e139_27, e139_30, e139_31, e139_33, e139_36, e139_38, e139_41, e139_42, e139_45, e139_48, e139_49, e139_50, e139_53, e139_55, e139_58, e139_61, e139_62, e139_64, e139_65, e139_68, e139_70, e139_73, e139_75, e139_78, e139_80, e139_81, e139_83, e139_86, e139_89, e139_90, e139_91, e139_92, e139_95, e139_97, e139_100, e139_102, e139_105, e139_106, e139_109, e139_112, e139_115, e139_116, e139_117, e139_120, e139_122, e139_125, e139_126, e139_127, e139_130, e139_131, e139_134, e139_136, e139_137, e139_138, e139_141, e139_143, e139_146, e139_149, e139_150, e139_154, e139_157, e139_158, e139_161, e139_163, e139_164, e139_167, e139_170, e139_171, e139_172, e139_175, e139_176, e139_179, e139_181, e139_182, e139_183, e139_186, e139_189, e139_190, e139_193, e139_195, e139_197, e139_200, e139_201, e139_204, e139_205, e139_208, e139_210, e139_212, e139_215, e139_216, e139_217, e139_221, e139_222, e139_225, m139, ↓reduceIte, qg_0, qg_1, qg_2, qg_3, qg_4, qg_5, qg_6, qg_7, qg_8, qg_9, qg_10, qg_11, qg_12, qg_13, not_true_eq_false, not_false_eq_true, Nat.reduceBEq, Bool.false_eq_true, ex1, ex3, ex4, exF, qfit_i, qfit_l, qfit_r, qfit_n, qfit_b0, qfit_b1, qcat_i, qcat_r, qcat_n, qcat_l, qroom_0, qroom_c, List.map_cons, List.map_nil, List.sum_cons, List.sum_nil, Nat.reduceAdd, Nat.reduceMul, Nat.reduceLT, Nat.reduceLeDiff, Nat.reduceEqDiff, Nat.reduceSub, decide_true, true_and, and_true, and_self, if_true, if_false, Option.toList_some, Option.toList_none, List.cons_append, List.nil_append, qsL, qlong, List.length_cons, List.length_nil, iN_L, exI, iN_add, iN_mul, iN_le, iN_lt, iN_eq, Nat.le_refl, qfN0, qfN1, uX_16, vX_16, uX_19, vX_19, uX_27, vX_27, uX_30, vX_30, uX_39, vX_39, uX_41, vX_41, uX_43, vX_43, uX_46, vX_46, uX_50, vX_50, uX_53, vX_53, gX_16_4, r3']
              · have : tellAll (dmn bs i + 1) (tellAll (dmn bs i + 1) [] (rsL (dmn bs i) ((if 0 = 2 then (cnr bs i).length else 1 : Nat) : Int) 0 (cnr bs i))) ((cnr bs i).map fun p => lftP (dmn bs i) p z) = rsN bs i 0 z := by
                  rw [eN]
                  unfold rsQ
                  rw [tellAll_app]
                  refine tell_cong ?_ _
                  rw [if_pos rfl]
                  unfold rsL
                  rw [List.map_map, List.map_map]
                  exact List.map_congr_left fun q hq => rz_lid hm
                rw [← this]; exact t3
            · subst k0
              obtain ⟨h3, r3', c3, t3⟩ := x_tellTip (d := d + 4) (n := 1) (z := z) s2 (show dmn bs i + 1 < 1000 by omega) X2 hi' t2 (by omega) (by omega)
              have r3'' : ∀ R, qMC (d + 7) 20 [.ref 19, .ref (sa i), .int (iN 1), .int (iN z)] h2 R ↔ R = (none, h3) := fun R => by rw [← iZ_nat]; exact r3' R
              refine ⟨h3, fun R => ?_, ch2.trans0 (c3.mono (by decide) (by decide) (Nat.le_refl _)), ?_⟩
              · rw [e139_153]
                simp (disch := first | assumption | omega) only [e139_0, e139_1, e139_2, e139_5, e139_7, e139_9, e139_9N, e139_12, e139_15, e139_16, e139_17, e139_20, e139_21, e139_22, e139_25, e139_26, e139_27, e139_30, e139_31, e139_33, e139_36, e139_38, e139_41, e139_42, e139_45, e139_48, e139_49, e139_50, e139_53, e139_55, e139_58, e139_61, e139_62, e139_64, e139_65, e139_68, e139_70, e139_73, e139_75, e139_78, e139_80, e139_81, e139_83, e139_86, e139_89, e139_90, e139_91, e139_92, e139_95, e139_97, e139_100, e139_102, e139_105, e139_106, e139_109, e139_112, e139_115, e139_116, e139_117, e139_120, e139_122, e139_125, e139_126, e139_127, e139_130, e139_131, e139_134, e139_136, e139_137, e139_138, e139_141, e139_143, e139_146, e139_149, e139_150, e139_154, e139_157, e139_158, e139_161, e139_163, e139_164, e139_167, e139_170, e139_171, e139_172, e139_175, e139_176, e139_179, e139_181, e139_182, e139_183, e139_186, e139_189, e139_190, e139_193, e139_195, e139_197, e139_200, e139_201, e139_204, e139_205, e139_208, e139_210, e139_212, e139_215, e139_216, e139_217, e139_221, e139_222, e139_225, m139, ↓reduceIte, qg_0, qg_1, qg_2, qg_3, qg_4, qg_5, qg_6, qg_7, qg_8, qg_9, qg_10, qg_11, qg_12, qg_13, not_true_eq_false, not_false_eq_true, Nat.reduceBEq, Bool.false_eq_true, ex1, ex3, ex4, exF, qfit_i, qfit_l, qfit_r, qfit_n, qfit_b0, qfit_b1, qcat_i, qcat_r, qcat_n, qcat_l, qroom_0, qroom_c, List.map_cons, List.map_nil, List.sum_cons, List.sum_nil, Nat.reduceAdd, Nat.reduceMul, Nat.reduceLT, Nat.reduceLeDiff, Nat.reduceEqDiff, Nat.reduceSub, decide_true, true_and, and_true, and_self, if_true, if_false, Option.toList_some, Option.toList_none, List.cons_append, List.nil_append, qsL, qlong, List.length_cons, List.length_nil, iN_L, exI, iN_add, iN_mul, iN_le, iN_lt, iN_eq, Nat.le_refl, qfN0, qfN1, uX_16, vX_16, uX_19, vX_19, uX_27, vX_27, uX_30, vX_30, uX_39, vX_39, uX_41, vX_41, uX_43, vX_43, uX_46, vX_46, uX_50, vX_50, uX_53, vX_53, gX_16_4, r3'']
              · have : addP (tellAll (dmn bs i + 1) [] (rsL (dmn bs i) ((if 1 = 2 then (cnr bs i).length else 1 : Nat) : Int) 0 (cnr bs i))) (prj (dmn bs i + 1) (lftP (dmn bs i) (smC (cnr bs i) 1 0, smC (cnr bs i) 1 1, smC (cnr bs i) 1 2, 0) z)) = rsN bs i 1 z := by
                  rw [eN]
                  unfold rsQ
                  rw [tellAll_app, rs_one hm, if_neg (by decide), if_pos rfl]
                  have tk : (rsL (dmn bs i) ((1 : Nat) : Int) z (cnr bs i)).take 1 = [rsP (dmn bs i) ((1 : Nat) : Int) z ((cnr bs i).getD 0 z4)] := by
                    unfold rsL
                    cases hc : cnr bs i with
                    | nil => rw [hc] at nD; exact absurd nD (Nat.not_lt_zero _)
                    | cons a as => rfl
                  rw [tk]; rfl
                rw [← this]; exact t3
            · subst k0
              obtain ⟨h3, r3', c3, t3⟩ := x_tellTip (d := d + 4) (n := (cnr bs i).length) (z := z) s2 (show dmn bs i + 1 < 1000 by omega) X2 hi' t2 (by omega) (Nat.le_refl _)
              have s3 := c3.sh
              have X3 := X2.ch s2 c3 (by decide) (by decide) (by decide)
              obtain ⟨h4, r4', c4, t4⟩ := x_tellTip (d := d + 4) (n := (cnr bs i).length) (z := -(z : Int)) s3 (show dmn bs i + 1 < 1000 by omega) X3 hi' t3 (by omega) (Nat.le_refl _)
              obtain ⟨⟨u16, ult, uF⟩, g0, g1, g2, g3, g4, g5, g6⟩ := S3.obj
              obtain ⟨p5, q5, w5, e5, B5, S5, P5⟩ := X3.at hi'
              obtain ⟨⟨u16', ult', uF'⟩, g0', g1', g2', g3', g4', g5', g6'⟩ := S5.obj
              have r3'' : ∀ R, qMC (d + 7) 20 [.ref 19, .ref (sa i), .int (iN ((cnr bs i).length)), .int (iN z)] h2 R ↔ R = (none, h3) := fun R => by rw [← iZ_nat]; exact r3' R
              have r4'' : ∀ R, qMC (d + 7) 20 [.ref 19, .ref (sa i), .int (iN ((cnr bs i).length)), .int (-iN z)] h3 R ↔ R = (none, h4) := fun R => by rw [← iZ_nat z, iZ_neg]; exact r4' R
              refine ⟨h4, fun R => ?_, (ch2.trans0 (c3.mono (by decide) (by decide) (Nat.le_refl _))).trans0 (c4.mono (by decide) (by decide) (Nat.le_refl _)), ?_⟩
              · rw [e139_153]
                simp (disch := first | assumption | omega) only [e139_0, e139_1, e139_2, e139_5, e139_7, e139_9, e139_9N, e139_12, e139_15, e139_16, e139_17, e139_20, e139_21, e139_22, e139_25, e139_26, e139_27, e139_30, e139_31, e139_33, e139_36, e139_38, e139_41, e139_42, e139_45, e139_48, e139_49, e139_50, e139_53, e139_55, e139_58, e139_61, e139_62, e139_64, e139_65, e139_68, e139_70, e139_73, e139_75, e139_78, e139_80, e139_81, e139_83, e139_86, e139_89, e139_90, e139_91, e139_92, e139_95, e139_97, e139_100, e139_102, e139_105, e139_106, e139_109, e139_112, e139_115, e139_116, e139_117, e139_120, e139_122, e139_125, e139_126, e139_127, e139_130, e139_131, e139_134, e139_136, e139_137, e139_138, e139_141, e139_143, e139_146, e139_149, e139_150, e139_154, e139_157, e139_158, e139_161, e139_163, e139_164, e139_167, e139_170, e139_171, e139_172, e139_175, e139_176, e139_179, e139_181, e139_182, e139_183, e139_186, e139_189, e139_190, e139_193, e139_195, e139_197, e139_200, e139_201, e139_204, e139_205, e139_208, e139_210, e139_212, e139_215, e139_216, e139_217, e139_221, e139_222, e139_225, m139, ↓reduceIte, qg_0, qg_1, qg_2, qg_3, qg_4, qg_5, qg_6, qg_7, qg_8, qg_9, qg_10, qg_11, qg_12, qg_13, not_true_eq_false, not_false_eq_true, Nat.reduceBEq, Bool.false_eq_true, ex1, ex3, ex4, exF, qfit_i, qfit_l, qfit_r, qfit_n, qfit_b0, qfit_b1, qcat_i, qcat_r, qcat_n, qcat_l, qroom_0, qroom_c, List.map_cons, List.map_nil, List.sum_cons, List.sum_nil, Nat.reduceAdd, Nat.reduceMul, Nat.reduceLT, Nat.reduceLeDiff, Nat.reduceEqDiff, Nat.reduceSub, decide_true, true_and, and_true, and_self, if_true, if_false, Option.toList_some, Option.toList_none, List.cons_append, List.nil_append, qsL, qlong, List.length_cons, List.length_nil, iN_L, exI, iN_add, iN_mul, iN_le, iN_lt, iN_eq, Nat.le_refl, qfN0, qfN1, uX_16, vX_16, uX_19, vX_19, uX_27, vX_27, uX_30, vX_30, uX_39, vX_39, uX_41, vX_41, uX_43, vX_43, uX_46, vX_46, uX_50, vX_50, uX_53, vX_53, gX_16_4, u16, ult, uF, g0, g1, g2, g3, g4, g5, g6, r3'', u16', ult', uF', g0', g1', g2', g3', g4', g5', g6', r4'']
              · have : addP (addP (tellAll (dmn bs i + 1) [] (rsL (dmn bs i) ((if 2 = 2 then (cnr bs i).length else 1 : Nat) : Int) 0 (cnr bs i))) (prj (dmn bs i + 1) (lftP (dmn bs i) (smC (cnr bs i) (cnr bs i).length 0, smC (cnr bs i) (cnr bs i).length 1, smC (cnr bs i) (cnr bs i).length 2, 0) z))) (prj (dmn bs i + 1) (lftP (dmn bs i) (smC (cnr bs i) (cnr bs i).length 0, smC (cnr bs i) (cnr bs i).length 1, smC (cnr bs i) (cnr bs i).length 2, 0) (-(z : Int)))) = rsN bs i 2 z := by
                  rw [eN]
                  unfold rsQ
                  rw [tellAll_app, rz_tip hm, rz_tip hm, if_neg (show ¬ 2 = 0 by decide), if_neg (show ¬ 2 = 1 by decide)]
                  rfl
                rw [← this]; exact t4
          obtain ⟨h3, r4, c3, t3⟩ := fin
          have s3 := c3.sh
          have X3 := X.ch s c3 (by decide) (by decide) (by decide)
          have ok : okP (rsN bs i k z) (dmn bs i + 1) := by
            obtain ⟨o1, o2⟩ := okT0 (dmn bs i + 1) (rsQ (dmn bs i) (cnr bs i) k z) [] (okNil _)
            exact ⟨sm, o1, by omega, o2, by omega⟩
          have kv' : kepR bs (rsN bs i k z) (dmn bs i + 1) (iN 1) v bs' := by
            rcases hv with ⟨z1, -⟩ | ⟨-, z1, -⟩ | ⟨-, -, z1, z2, z3⟩ | ⟨-, -, z1, z2, z3⟩
            · omega
            · exact absurd sm z1
            · exact Or.inl ⟨z1, z2, z3⟩
            · exact Or.inr ⟨z1, z2, z3⟩
          obtain ⟨h5, sa', r5, c5, X5⟩ := x_keepHull (d := d) (sc := iN 1) s3 X3 t3 ok (by omega) kv'
          refine ⟨h5, sa', fun R => ?_, ((c3.mono (by decide) (by decide) (Nat.le_refl _)).trans c5).mono (fun _ z => z) (fun _ z => z) (by decide), X5⟩
          rw [r3 R, r4 R, e139_220]
          simp (disch := first | assumption | omega) only [e139_0, e139_1, e139_2, e139_5, e139_7, e139_9, e139_9N, e139_12, e139_15, e139_16, e139_17, e139_20, e139_21, e139_22, e139_25, e139_26, e139_27, e139_30, e139_31, e139_33, e139_36, e139_38, e139_41, e139_42, e139_45, e139_48, e139_49, e139_50, e139_53, e139_55, e139_58, e139_61, e139_62, e139_64, e139_65, e139_68, e139_70, e139_73, e139_75, e139_78, e139_80, e139_81, e139_83, e139_86, e139_89, e139_90, e139_91, e139_92, e139_95, e139_97, e139_100, e139_102, e139_105, e139_106, e139_109, e139_112, e139_115, e139_116, e139_117, e139_120, e139_122, e139_125, e139_126, e139_127, e139_130, e139_131, e139_134, e139_136, e139_137, e139_138, e139_141, e139_143, e139_146, e139_149, e139_150, e139_154, e139_157, e139_158, e139_161, e139_163, e139_164, e139_167, e139_170, e139_171, e139_172, e139_175, e139_176, e139_179, e139_181, e139_182, e139_183, e139_186, e139_189, e139_190, e139_193, e139_195, e139_197, e139_200, e139_201, e139_204, e139_205, e139_208, e139_210, e139_212, e139_215, e139_216, e139_217, e139_221, e139_222, e139_225, m139, ↓reduceIte, qg_0, qg_1, qg_2, qg_3, qg_4, qg_5, qg_6, qg_7, qg_8, qg_9, qg_10, qg_11, qg_12, qg_13, not_true_eq_false, not_false_eq_true, Nat.reduceBEq, Bool.false_eq_true, ex1, ex3, ex4, exF, qfit_i, qfit_l, qfit_r, qfit_n, qfit_b0, qfit_b1, qcat_i, qcat_r, qcat_n, qcat_l, qroom_0, qroom_c, List.map_cons, List.map_nil, List.sum_cons, List.sum_nil, Nat.reduceAdd, Nat.reduceMul, Nat.reduceLT, Nat.reduceLeDiff, Nat.reduceEqDiff, Nat.reduceSub, decide_true, true_and, and_true, and_self, if_true, if_false, Option.toList_some, Option.toList_none, List.cons_append, List.nil_append, qsL, qlong, List.length_cons, List.length_nil, iN_L, exI, iN_add, iN_mul, iN_le, iN_lt, iN_eq, Nat.le_refl, qfN0, qfN1, uX_16, vX_16, uX_19, vX_19, uX_27, vX_27, uX_30, vX_30, uX_39, vX_39, uX_41, vX_41, uX_43, vX_43, uX_46, vX_46, uX_50, vX_50, uX_53, vX_53, r5]
end XRAISE

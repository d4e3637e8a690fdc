/-! ===== WALKS: who is beside whom, how far ===== -/
section WALK
/-- joined by an edge -/
def adjB (es : List Nat) (a b : Nat) : Bool := anyN (fun e => decide (es.getD e 0 = 2 ^ a ||| 2 ^ b)) es.length && decide (a ≠ b)
theorem adjB_iff {es : List Nat} {a b : Nat} : adjB es a b = true ↔ 2 ^ a ||| 2 ^ b ∈ es ∧ a ≠ b := by
  unfold adjB
  rw [Bool.and_eq_true, anyN_mem, decide_eq_true_eq]
theorem adjB_sym {es : List Nat} {a b : Nat} : adjB es a b = adjB es b a := by
  rw [Bool.eq_iff_iff, adjB_iff, adjB_iff, Nat.or_comm]
  exact and_congr_right fun _ => ⟨fun h e => h e.symm, fun h e => h e.symm⟩
/-- all are come to -/
def cnA (adj : Nat → Nat → Bool) (n : Nat) : Prop := ∀ (R : Nat → Prop) (a : Nat), a < n → R a → (∀ c u, c < n → u < n → R c → adj c u = true → R u) → ∀ b, b < n → R b
/-- come to from a by t edges or fewer -/
def rch (adj : Nat → Nat → Bool) (n a : Nat) : Nat → Nat → Bool
  | 0, c => decide (c = a)
  | t + 1, c => rch adj n a t c || anyN (fun u => rch adj n a t u && adj u c) n
theorem rch_all {adj : Nat → Nat → Bool} {n a b : Nat} (hc : cnA adj n) (ha : a < n) (hb : b < n) : ∃ t, t ≤ n ∧ rch adj n a t b = true := by
  refine Classical.byContradiction fun hno => ?_
  have key : ∀ t, t ≤ n → t < cntN (rch adj n a t) n := by
    intro t
    induction t with
    | zero => exact fun _ => cntN_pos.mpr ⟨a, ha, decide_eq_true rfl⟩
    | succ t ih =>
      intro ht
      have h1 := ih (by omega)
      have h2 : cntN (rch adj n a t) n < cntN (rch adj n a (t + 1)) n := by
        refine cntN_ltq (fun k _ hk => by rw [rch, hk]; rfl) ?_
        refine Classical.byContradiction fun z => hno ⟨t, by omega, ?_⟩
        refine hc (fun c => rch adj n a t c = true) a ha ?_ (fun c u hcn hu h3 h4 => ?_) b hb
        · have : ∀ t, rch adj n a t a = true := by
            intro t
            induction t with
            | zero => exact decide_eq_true rfl
            | succ t ih => rw [rch, ih]; rfl
          exact this t
        · refine Classical.byContradiction fun w => z ⟨u, hu, ?_, w⟩
          rw [rch, Bool.or_eq_true]
          exact Or.inr (anyN_iff.mpr ⟨c, hcn, by rw [h3, h4]; rfl⟩)
      omega
  have := key n (Nat.le_refl _)
  have h3 := cntN_le (p := rch adj n a n) (n := n)
  omega
/-- the first of its kind -/
theorem least {p : Nat → Prop} {n : Nat} (h : ∃ t, t ≤ n ∧ p t) : ∃ t, t ≤ n ∧ p t ∧ ∀ k, k < t → ¬ p k := by
  obtain ⟨t, ht, hp⟩ := h
  induction t using Nat.strongRecOn with
  | ind t ih =>
    by_cases hz : ∃ k, k < t ∧ p k
    · obtain ⟨k, hk, hpk⟩ := hz
      exact ih k hk (by omega) hpk
    · exact ⟨t, ht, hp, fun k hk hpk => hz ⟨k, hk, hpk⟩⟩
variable {d : Nat} {h : qH} {bs : List bdy}
theorem BsM.conn {i : Nat} (B : BsM h bs) (hi' : i < bs.length) : cnA (adjB (cel bs i 1)) (cnr bs i).length := by
  obtain ⟨m, S, G, b⟩ := B.G hi'
  have ok := (B.2.2 i hi').1
  have hl : (cnr bs i).length = ncr (bs.getD i b0).1 (bs.getD i b0).2.1 := crn_len _ _
  intro R a ha hR hcl x hx
  rw [hl] at ha hx hcl
  have h16 := b.n16
  refine b.conn ok ha hR (fun c u hc hu hne hRc hE => hcl c u hc hu hRc (adjB_iff.mpr ⟨cls_mem.mpr ⟨?_, hE⟩, fun z => hne z.symm⟩)) hx
  refine Nat.lt_of_lt_of_le (Nat.or_lt_two_pow (n := 16) ?_ ?_) (by decide)
  · exact Nat.pow_lt_pow_right (by decide) (by omega)
  · exact Nat.pow_lt_pow_right (by decide) (by omega)
theorem pair_lt {a b : Nat} (ha : a < 16) (hb : b < 16) : 2 ^ a ||| 2 ^ b < 65536 :=
  Nat.lt_of_lt_of_le (Nat.or_lt_two_pow (n := 16) (Nat.pow_lt_pow_right (by decide) ha) (Nat.pow_lt_pow_right (by decide) hb)) (by decide)
set_option maxRecDepth 100000 in
set_option maxHeartbeats 16000000 in
theorem s_areBeside {i a b : Nat} (s : ShM h) (B : BsM h bs) (hi' : i < bs.length) (ha : a < 16) (hb : b < 16) (R : qRes) : qMC (d + 2) 267 [.ref 55, .int (iN i), .int (iN a), .int (iN b)] h R ↔ R = (some (.int (bB (adjB (cel bs i 1) a b))), h) := by
  have b24 := B.1
  obtain ⟨-, c208, cc⟩ := B.cells hi' 1 (by decide)
  have sm : ∀ R, qMC (d + 1) 195 [.ref 55, .int (iN i), .int (iN 1)] h R ↔ R = (some (.int (iN (cel bs i 1).length)), h) := fun R => s_manyC s B hi' (by decide)
  obtain ⟨es, ees⟩ : ∃ es, es = cel bs i 1 := ⟨_, rfl⟩
  have so : ∀ e, e < es.length → ∀ R, qMC (d + 1) 196 [.ref 55, .int (iN i), .int (iN 1), .int (iN e)] h R ↔ R = (some (.int (iN (es.getD e 0))), h) := fun e he R => by rw [ees]; exact s_setOfC s B hi' (by decide) (by rw [← ees]; exact he)
  rw [← ees] at c208 cc sm ⊢
  have p16 := pair_lt ha hb
  simp (disch := first | assumption | omega) only [e267_0, e267_1, e267_3, e267_4, e267_8, e267_9, e267_10, e267_11, e267_14, e267_17, e267_19, e267_22, e267_23, e267_24, e267_25, e267_27, e267_30, e267_31, e267_32, e267_33, e267_34, e267_35, e267_36, e267_37, e267_40, e267_41, e267_44, e267_45, e267_47, e267_50, e267_53, e267_55, e267_58, e267_59, e267_60, e267_63, e267_64, e267_67, e267_68, m267, ↓reduceIte, qg_0, qg_1, qg_2, qg_3, qg_4, qg_5, qg_6, qg_7, qg_8, qg_9, qg_10, qg_11, qg_12, qg_13, not_true_eq_false, not_false_eq_true, Nat.reduceBEq, Bool.false_eq_true, ex1, ex3, ex4, exF, qfit_i, qfit_l, qfit_r, qfit_n, qfit_b0, qfit_b1, qcat_i, qcat_r, qcat_n, qcat_l, qroom_0, qroom_c, List.map_cons, List.map_nil, List.sum_cons, List.sum_nil, Nat.reduceAdd, Nat.reduceMul, Nat.reduceLT, Nat.reduceLeDiff, Nat.reduceEqDiff, Nat.reduceSub, decide_true, true_and, and_true, and_self, if_true, if_false, Option.toList_some, Option.toList_none, List.cons_append, List.nil_append, qsL, qlong, List.length_cons, List.length_nil, iN_L, vM1, vM2, exI, iN_add, iN_mul, iN_le, iN_lt, iN_eq, Nat.le_refl, qfN0, qfN1]
  refine Iff.trans (loop_up (n := es.length) (L := fun e => [some (.ref 55), some (.int (iN i)), some (.int (iN a)), some (.int (iN b)), some (.int (bB (anyN (fun e => decide (es.getD e 0 = 2 ^ a ||| 2 ^ b)) e))), some (.int (iN e))]) (H := fun _ => h) ?_) ?_
  · intro e he
    try dsimp only
    rw [e267_6, anyN]
    have bj := (cc e he).2
    have soe := so e he
    cases anyN (fun e => decide (es.getD e 0 = 2 ^ a ||| 2 ^ b)) e with
    | true =>
      rw [Bool.true_or]
      simp (disch := first | assumption | omega) only [e267_0, e267_1, e267_3, e267_4, e267_8, e267_9, e267_10, e267_11, e267_14, e267_17, e267_19, e267_22, e267_23, e267_24, e267_25, e267_27, e267_30, e267_31, e267_32, e267_33, e267_34, e267_35, e267_36, e267_37, e267_40, e267_41, e267_44, e267_45, e267_47, e267_50, e267_55, e267_58, e267_59, e267_60, e267_63, e267_64, e267_67, e267_68, m267, ↓reduceIte, qg_0, qg_1, qg_2, qg_3, qg_4, qg_5, qg_6, qg_7, qg_8, qg_9, qg_10, qg_11, qg_12, qg_13, not_true_eq_false, not_false_eq_true, Nat.reduceBEq, Bool.false_eq_true, ex1, ex3, ex4, exF, qfit_i, qfit_l, qfit_r, qfit_n, qfit_b0, qfit_b1, qcat_i, qcat_r, qcat_n, qcat_l, qroom_0, qroom_c, List.map_cons, List.map_nil, List.sum_cons, List.sum_nil, Nat.reduceAdd, Nat.reduceMul, Nat.reduceLT, Nat.reduceLeDiff, Nat.reduceEqDiff, Nat.reduceSub, decide_true, true_and, and_true, and_self, if_true, if_false, Option.toList_some, Option.toList_none, List.cons_append, List.nil_append, qsL, qlong, List.length_cons, List.length_nil, iN_L, vM1, vM2, exI, iN_add, iN_mul, iN_le, iN_lt, iN_eq, Nat.le_refl, qfN0, qfN1, sm, show ¬ es.length ≤ e by omega, bB_t, show ¬ iN 1 = iN 0 by decide]
    | false =>
      rw [Bool.false_or]
      by_cases q : es.getD e 0 = 2 ^ a ||| 2 ^ b
      · rw [decide_eq_true q]
        simp (disch := first | assumption | omega) only [e267_0, e267_1, e267_3, e267_4, e267_8, e267_9, e267_10, e267_11, e267_14, e267_17, e267_19, e267_22, e267_23, e267_24, e267_25, e267_27, e267_30, e267_31, e267_32, e267_33, e267_34, e267_35, e267_36, e267_37, e267_40, e267_41, e267_44, e267_45, e267_47, e267_50, e267_55, e267_58, e267_59, e267_60, e267_63, e267_64, e267_67, e267_68, m267, ↓reduceIte, qg_0, qg_1, qg_2, qg_3, qg_4, qg_5, qg_6, qg_7, qg_8, qg_9, qg_10, qg_11, qg_12, qg_13, not_true_eq_false, not_false_eq_true, Nat.reduceBEq, Bool.false_eq_true, ex1, ex3, ex4, exF, qfit_i, qfit_l, qfit_r, qfit_n, qfit_b0, qfit_b1, qcat_i, qcat_r, qcat_n, qcat_l, qroom_0, qroom_c, List.map_cons, List.map_nil, List.sum_cons, List.sum_nil, Nat.reduceAdd, Nat.reduceMul, Nat.reduceLT, Nat.reduceLeDiff, Nat.reduceEqDiff, Nat.reduceSub, decide_true, true_and, and_true, and_self, if_true, if_false, Option.toList_some, Option.toList_none, List.cons_append, List.nil_append, qsL, qlong, List.length_cons, List.length_nil, iN_L, vM1, vM2, exI, iN_add, iN_mul, iN_le, iN_lt, iN_eq, Nat.le_refl, qfN0, qfN1, sm, show ¬ es.length ≤ e by omega, bB_t, bB_f, soe, iN_shl1, iN_or, q]
      · rw [decide_eq_false q]
        simp (disch := first | assumption | omega) only [e267_0, e267_1, e267_3, e267_4, e267_8, e267_9, e267_10, e267_11, e267_14, e267_17, e267_19, e267_22, e267_23, e267_24, e267_25, e267_27, e267_30, e267_31, e267_32, e267_33, e267_34, e267_35, e267_36, e267_37, e267_40, e267_41, e267_44, e267_45, e267_47, e267_50, e267_55, e267_58, e267_59, e267_60, e267_63, e267_64, e267_67, e267_68, m267, ↓reduceIte, qg_0, qg_1, qg_2, qg_3, qg_4, qg_5, qg_6, qg_7, qg_8, qg_9, qg_10, qg_11, qg_12, qg_13, not_true_eq_false, not_false_eq_true, Nat.reduceBEq, Bool.false_eq_true, ex1, ex3, ex4, exF, qfit_i, qfit_l, qfit_r, qfit_n, qfit_b0, qfit_b1, qcat_i, qcat_r, qcat_n, qcat_l, qroom_0, qroom_c, List.map_cons, List.map_nil, List.sum_cons, List.sum_nil, Nat.reduceAdd, Nat.reduceMul, Nat.reduceLT, Nat.reduceLeDiff, Nat.reduceEqDiff, Nat.reduceSub, decide_true, true_and, and_true, and_self, if_true, if_false, Option.toList_some, Option.toList_none, List.cons_append, List.nil_append, qsL, qlong, List.length_cons, List.length_nil, iN_L, vM1, vM2, exI, iN_add, iN_mul, iN_le, iN_lt, iN_eq, Nat.le_refl, qfN0, qfN1, sm, show ¬ es.length ≤ e by omega, bB_t, bB_f, soe, iN_shl1, iN_or, q]
  · try dsimp only
    rw [e267_6]
    unfold adjB
    cases anyN (fun e => decide (es.getD e 0 = 2 ^ a ||| 2 ^ b)) es.length with
    | false =>
      rw [Bool.false_and]
      simp (disch := first | assumption | omega) only [e267_0, e267_1, e267_3, e267_4, e267_8, e267_9, e267_10, e267_11, e267_14, e267_17, e267_19, e267_22, e267_23, e267_24, e267_25, e267_27, e267_30, e267_31, e267_32, e267_33, e267_34, e267_35, e267_36, e267_37, e267_40, e267_41, e267_44, e267_45, e267_47, e267_50, e267_53, e267_55, e267_58, e267_59, e267_60, e267_63, e267_64, e267_67, e267_68, m267, ↓reduceIte, qg_0, qg_1, qg_2, qg_3, qg_4, qg_5, qg_6, qg_7, qg_8, qg_9, qg_10, qg_11, qg_12, qg_13, not_true_eq_false, not_false_eq_true, Nat.reduceBEq, Bool.false_eq_true, ex1, ex3, ex4, exF, qfit_i, qfit_l, qfit_r, qfit_n, qfit_b0, qfit_b1, qcat_i, qcat_r, qcat_n, qcat_l, qroom_0, qroom_c, List.map_cons, List.map_nil, List.sum_cons, List.sum_nil, Nat.reduceAdd, Nat.reduceMul, Nat.reduceLT, Nat.reduceLeDiff, Nat.reduceEqDiff, Nat.reduceSub, decide_true, true_and, and_true, and_self, if_true, if_false, Option.toList_some, Option.toList_none, List.cons_append, List.nil_append, qsL, qlong, List.length_cons, List.length_nil, iN_L, vM1, vM2, exI, iN_add, iN_mul, iN_le, iN_lt, iN_eq, Nat.le_refl, qfN0, qfN1, sm, bB_f]
    | true =>
      rw [Bool.true_and]
      by_cases q : a = b
      · rw [decide_eq_false (fun z => z q)]
        simp (disch := first | assumption | omega) only [e267_0, e267_1, e267_3, e267_4, e267_8, e267_9, e267_10, e267_11, e267_14, e267_17, e267_19, e267_22, e267_23, e267_24, e267_25, e267_27, e267_30, e267_31, e267_32, e267_33, e267_34, e267_35, e267_36, e267_37, e267_40, e267_41, e267_44, e267_45, e267_47, e267_50, e267_53, e267_55, e267_58, e267_59, e267_60, e267_63, e267_64, e267_67, e267_68, m267, ↓reduceIte, qg_0, qg_1, qg_2, qg_3, qg_4, qg_5, qg_6, qg_7, qg_8, qg_9, qg_10, qg_11, qg_12, qg_13, not_true_eq_false, not_false_eq_true, Nat.reduceBEq, Bool.false_eq_true, ex1, ex3, ex4, exF, qfit_i, qfit_l, qfit_r, qfit_n, qfit_b0, qfit_b1, qcat_i, qcat_r, qcat_n, qcat_l, qroom_0, qroom_c, List.map_cons, List.map_nil, List.sum_cons, List.sum_nil, Nat.reduceAdd, Nat.reduceMul, Nat.reduceLT, Nat.reduceLeDiff, Nat.reduceEqDiff, Nat.reduceSub, decide_true, true_and, and_true, and_self, if_true, if_false, Option.toList_some, Option.toList_none, List.cons_append, List.nil_append, qsL, qlong, List.length_cons, List.length_nil, iN_L, vM1, vM2, exI, iN_add, iN_mul, iN_le, iN_lt, iN_eq, Nat.le_refl, qfN0, qfN1, sm, bB_t, bB_f, show ¬ iN 1 = iN 0 by decide, q]
      · rw [decide_eq_true q]
        simp (disch := first | assumption | omega) only [e267_0, e267_1, e267_3, e267_4, e267_8, e267_9, e267_10, e267_11, e267_14, e267_17, e267_19, e267_22, e267_23, e267_24, e267_25, e267_27, e267_30, e267_31, e267_32, e267_33, e267_34, e267_35, e267_36, e267_37, e267_40, e267_41, e267_44, e267_45, e267_47, e267_50, e267_53, e267_55, e267_58, e267_59, e267_60, e267_63, e267_64, e267_67, e267_68, m267, ↓reduceIte, qg_0, qg_1, qg_2, qg_3, qg_4, qg_5, qg_6, qg_7, qg_8, qg_9, qg_10, qg_11, qg_12, qg_13, not_true_eq_false, not_false_eq_true, Nat.reduceBEq, Bool.false_eq_true, ex1, ex3, ex4, exF, qfit_i, qfit_l, qfit_r, qfit_n, qfit_b0, qfit_b1, qcat_i, qcat_r, qcat_n, qcat_l, qroom_0, qroom_c, List.map_cons, List.map_nil, List.sum_cons, List.sum_nil, Nat.reduceAdd, Nat.reduceMul, Nat.reduceLT, Nat.reduceLeDiff, Nat.reduceEqDiff, Nat.reduceSub, decide_true, true_and, and_true, and_self, if_true, if_false, Option.toList_some, Option.toList_none, List.cons_append, List.nil_append, qsL, qlong, List.length_cons, List.length_nil, iN_L, vM1, vM2, exI, iN_add, iN_mul, iN_le, iN_lt, iN_eq, Nat.le_refl, qfN0, qfN1, sm, bB_t, bB_f, show ¬ iN 1 = iN 0 by decide, q]
/-- the row of those beside -/
def BeV (h : qH) (n : Nat) (adj : Nat → Nat → Bool) : Prop := ∀ c, c < n → hi h 82 c = iN (mask (adj c) n)
theorem BeV.ch {A J : List Nat} {h h' : qH} {n : Nat} {adj : Nat → Nat → Bool} (c : Ch A J h h') (h1 : 82 ∉ A) (v : BeV h n adj) : BeV h' n adj := fun k hk => by rw [c.hi h1 (by decide)]; exact v k hk
theorem mask_16 {f : Nat → Bool} {n : Nat} (h : n ≤ 16) : mask f n < 65536 := Nat.lt_of_lt_of_le (mask_lt f n) (show 2 ^ n ≤ 2 ^ 16 from Nat.pow_le_pow_right (by decide) h)
set_option maxRecDepth 100000 in
set_option maxHeartbeats 16000000 in
theorem s_findBeside {i : Nat} (s : ShM h) (B : BsM h bs) (hi' : i < bs.length) : ∃ h', (∀ R, qMC (d + 3) 268 [.ref 55, .int (iN i)] h R ↔ R = (none, h')) ∧ Ch [82] [] h h' ∧ BeV h' (cnr bs i).length (adjB (cel bs i 1)) := by
  have b24 := B.1
  have cl := (B.corn hi').2.1
  obtain ⟨n, en⟩ : ∃ n, n = (cnr bs i).length := ⟨_, rfl⟩
  obtain ⟨adj, ea⟩ : ∃ adj, adj = adjB (cel bs i 1) := ⟨_, rfl⟩
  obtain ⟨L2, h2, ⟨x3, rfl, c2', v2⟩, r2⟩ := loop_inv (d := d + 2) (rt := 4) (K := qk_268) (pc := 2) (P := fun a L h' => ∃ x3, L = [some (.ref 55), some (.int (iN i)), some (.int (iN a)), x3] ∧ Ch [82] [] h h' ∧ ∀ c, c < a → hi h' 82 c = iN (mask (adj c) n)) (n := n) (fun a L h1 hk hP => by
    obtain ⟨x3, rfl, c, v1⟩ := hP
    have s1 := c.sh
    have B1 : BsM h1 bs := B.ch c (by decide) (by decide)
    have c57 : hi h1 57 i = iN n := by rw [en]; exact (B1.corn hi').1
    have k82 := kM_82 s1
    have sG : ∀ G, ShM (sI h1 82 G) := fun G => s1.rowI k82
    have BG : ∀ G, BsM (sI h1 82 G) bs := fun G => B1.ch (Ch.rowI (A := [82]) (J := []) s1 k82 (by decide)) (by decide) (by decide)
    have cG : ∀ G, hi (sI h1 82 G) 57 i = iN n := fun G => by rw [hi_sI, if_neg (by decide)]; exact c57
    refine ⟨[some (.ref 55), some (.int (iN i)), some (.int (iN (a + 1))), some (.int (iN n))], sI h1 82 (upd (hi h1 82) a (iN (mask (adj a) n))), ⟨_, rfl, c.trans (Ch.rowI s1 k82 (by decide)), fun t ht => ?_⟩, fun R => ?_⟩
    · rw [hi_sI, if_pos rfl, upd_at]
      by_cases q : t = a
      · rw [if_pos q, q]
      · rw [if_neg q]; exact v1 t (by omega)
    · have r0 : qEv (d + 2) 4 qk_268 2 [some (.ref 55), some (.int (iN i)), some (.int (iN a)), x3] [] h1 R ↔ qEv (d + 2) 4 qk_268 21 [some (.ref 55), some (.int (iN i)), some (.int (iN a)), some (.int (iN 0))] [] (sI h1 82 (upd (hi h1 82) a (iN (mask (adj a) 0)))) R := by
        rw [e268_2]
        simp (disch := first | assumption | omega) only [e268_0, e268_1, e268_3, e268_4, e268_7, e268_8, e268_9, e268_12, e268_13, e268_16, e268_17, e268_18, e268_19, e268_20, e268_22, e268_23, e268_26, e268_27, e268_28, e268_31, e268_32, e268_35, e268_36, e268_37, e268_38, e268_39, e268_40, e268_41, e268_42, e268_45, e268_48, e268_49, e268_50, e268_51, e268_54, e268_55, e268_56, e268_57, e268_60, e268_63, e268_66, e268_69, m268, ↓reduceIte, qg_0, qg_1, qg_2, qg_3, qg_4, qg_5, qg_6, qg_7, qg_8, qg_9, qg_10, qg_11, qg_12, qg_13, not_true_eq_false, not_false_eq_true, Nat.reduceBEq, Bool.false_eq_true, ex1, ex3, ex4, exF, qfit_i, qfit_l, qfit_r, qfit_n, qfit_b0, qfit_b1, qcat_i, qcat_r, qcat_n, qcat_l, qroom_0, qroom_c, List.map_cons, List.map_nil, List.sum_cons, List.sum_nil, Nat.reduceAdd, Nat.reduceMul, Nat.reduceLT, Nat.reduceLeDiff, Nat.reduceEqDiff, Nat.reduceSub, decide_true, true_and, and_true, and_self, if_true, if_false, Option.toList_some, Option.toList_none, List.cons_append, List.nil_append, qsL, qlong, List.length_cons, List.length_nil, iN_L, vM1, vM2, exI, iN_add, iN_mul, iN_le, iN_lt, iN_eq, Nat.le_refl, qfN0, qfN1, gM_2, rM_57, c57, show ¬ n ≤ a by omega, gM_37, wM_82]
        exact Iff.rfl
      rw [r0]
      refine Iff.trans (loop_up (n := n) (L := fun b => [some (.ref 55), some (.int (iN i)), some (.int (iN a)), some (.int (iN b))]) (H := fun b => sI h1 82 (upd (hi h1 82) a (iN (mask (adj a) b)))) ?_) ?_
      · intro b hb
        try dsimp only
        rw [e268_21]
        have sg := sG (upd (hi h1 82) a (iN (mask (adj a) b)))
        have cg := cG (upd (hi h1 82) a (iN (mask (adj a) b)))
        have ar : ∀ R, qMC (d + 2) 267 [.ref 55, .int (iN i), .int (iN a), .int (iN b)] (sI h1 82 (upd (hi h1 82) a (iN (mask (adj a) b)))) R ↔ R = (some (.int (bB (adj a b))), sI h1 82 (upd (hi h1 82) a (iN (mask (adj a) b)))) := fun R => by
          rw [ea]; exact s_areBeside (sG _) (BG _) hi' (by omega) (by omega) R
        have ra : hi (sI h1 82 (upd (hi h1 82) a (iN (mask (adj a) b)))) 82 a = iN (mask (adj a) b) := by rw [hi_sI, if_pos rfl, upd_at, if_pos rfl]
        have eq : upd (upd (hi h1 82) a (iN (mask (adj a) b))) a (iN (mask (adj a) b ||| if adj a b = true then 2 ^ b else 0)) = upd (hi h1 82) a (iN (mask (adj a) (b + 1))) := by
          funext t
          rw [upd_at, upd_at, upd_at, mask]
          by_cases q : t = a
          · rw [if_pos q, if_pos q]
          · rw [if_neg q, if_neg q, if_neg q]
        cases q : adj a b with
        | true =>
          rw [q] at ar eq
          rw [if_pos rfl] at eq
          simp (disch := first | assumption | omega) only [e268_0, e268_1, e268_2, e268_3, e268_4, e268_7, e268_8, e268_9, e268_12, e268_13, e268_16, e268_17, e268_18, e268_19, e268_20, e268_22, e268_23, e268_26, e268_27, e268_28, e268_31, e268_32, e268_35, e268_36, e268_37, e268_38, e268_39, e268_40, e268_41, e268_42, e268_45, e268_48, e268_49, e268_50, e268_51, e268_54, e268_55, e268_56, e268_57, e268_60, e268_66, e268_69, m268, ↓reduceIte, qg_0, qg_1, qg_2, qg_3, qg_4, qg_5, qg_6, qg_7, qg_8, qg_9, qg_10, qg_11, qg_12, qg_13, not_true_eq_false, not_false_eq_true, Nat.reduceBEq, Bool.false_eq_true, ex1, ex3, ex4, exF, qfit_i, qfit_l, qfit_r, qfit_n, qfit_b0, qfit_b1, qcat_i, qcat_r, qcat_n, qcat_l, qroom_0, qroom_c, List.map_cons, List.map_nil, List.sum_cons, List.sum_nil, Nat.reduceAdd, Nat.reduceMul, Nat.reduceLT, Nat.reduceLeDiff, Nat.reduceEqDiff, Nat.reduceSub, decide_true, true_and, and_true, and_self, if_true, if_false, Option.toList_some, Option.toList_none, List.cons_append, List.nil_append, qsL, qlong, List.length_cons, List.length_nil, iN_L, vM1, vM2, exI, iN_add, iN_mul, iN_le, iN_lt, iN_eq, Nat.le_refl, qfN0, qfN1, gM_2, rM_57, cg, show ¬ n ≤ b by omega, gM_37, rM_82, ra, ar, bB_t, show ¬ iN 1 = iN 0 by decide, iN_shl1, iN_or, wM_82, hi_sI, sI_sI, eq]
        | false =>
          rw [q] at ar eq
          rw [if_neg (by decide), Nat.or_zero] at eq
          simp (disch := first | assumption | omega) only [e268_0, e268_1, e268_2, e268_3, e268_4, e268_7, e268_8, e268_9, e268_12, e268_13, e268_16, e268_17, e268_18, e268_19, e268_20, e268_22, e268_23, e268_26, e268_27, e268_28, e268_31, e268_32, e268_35, e268_36, e268_37, e268_38, e268_39, e268_40, e268_41, e268_42, e268_45, e268_48, e268_49, e268_50, e268_51, e268_54, e268_55, e268_56, e268_57, e268_60, e268_66, e268_69, m268, ↓reduceIte, qg_0, qg_1, qg_2, qg_3, qg_4, qg_5, qg_6, qg_7, qg_8, qg_9, qg_10, qg_11, qg_12, qg_13, not_true_eq_false, not_false_eq_true, Nat.reduceBEq, Bool.false_eq_true, ex1, ex3, ex4, exF, qfit_i, qfit_l, qfit_r, qfit_n, qfit_b0, qfit_b1, qcat_i, qcat_r, qcat_n, qcat_l, qroom_0, qroom_c, List.map_cons, List.map_nil, List.sum_cons, List.sum_nil, Nat.reduceAdd, Nat.reduceMul, Nat.reduceLT, Nat.reduceLeDiff, Nat.reduceEqDiff, Nat.reduceSub, decide_true, true_and, and_true, and_self, if_true, if_false, Option.toList_some, Option.toList_none, List.cons_append, List.nil_append, qsL, qlong, List.length_cons, List.length_nil, iN_L, vM1, vM2, exI, iN_add, iN_mul, iN_le, iN_lt, iN_eq, Nat.le_refl, qfN0, qfN1, gM_2, rM_57, cg, show ¬ n ≤ b by omega, gM_37, rM_82, ra, ar, bB_f, iN_or, Nat.or_zero, wM_82, hi_sI, sI_sI, eq]
      · try dsimp only
        rw [e268_21]
        have sg := sG (upd (hi h1 82) a (iN (mask (adj a) n)))
        have cg := cG (upd (hi h1 82) a (iN (mask (adj a) n)))
        simp (disch := first | assumption | omega) only [e268_0, e268_1, e268_3, e268_4, e268_7, e268_8, e268_9, e268_12, e268_13, e268_16, e268_17, e268_18, e268_19, e268_20, e268_22, e268_23, e268_26, e268_27, e268_28, e268_31, e268_32, e268_35, e268_36, e268_37, e268_38, e268_39, e268_40, e268_41, e268_42, e268_45, e268_48, e268_49, e268_50, e268_51, e268_54, e268_55, e268_56, e268_57, e268_60, e268_63, e268_66, e268_69, m268, ↓reduceIte, qg_0, qg_1, qg_2, qg_3, qg_4, qg_5, qg_6, qg_7, qg_8, qg_9, qg_10, qg_11, qg_12, qg_13, not_true_eq_false, not_false_eq_true, Nat.reduceBEq, Bool.false_eq_true, ex1, ex3, ex4, exF, qfit_i, qfit_l, qfit_r, qfit_n, qfit_b0, qfit_b1, qcat_i, qcat_r, qcat_n, qcat_l, qroom_0, qroom_c, List.map_cons, List.map_nil, List.sum_cons, List.sum_nil, Nat.reduceAdd, Nat.reduceMul, Nat.reduceLT, Nat.reduceLeDiff, Nat.reduceEqDiff, Nat.reduceSub, decide_true, true_and, and_true, and_self, if_true, if_false, Option.toList_some, Option.toList_none, List.cons_append, List.nil_append, qsL, qlong, List.length_cons, List.length_nil, iN_L, vM1, vM2, exI, iN_add, iN_mul, iN_le, iN_lt, iN_eq, Nat.le_refl, qfN0, qfN1, gM_2, rM_57, cg]) (L := [some (.ref 55), some (.int (iN i)), some (.int (iN 0)), none]) (h := h) ⟨none, rfl, Ch.refl s, fun c hc => absurd hc (Nat.not_lt_zero c)⟩
  have s2 := c2'.sh
  have c57 : hi h2 57 i = iN n := by rw [en]; exact ((B.ch c2' (by decide) (by decide)).corn hi').1
  refine ⟨h2, fun R => ?_, c2', by rw [← en, ← ea]; exact v2⟩
  have r0 : qMC (d + 3) 268 [.ref 55, .int (iN i)] h R ↔ qEv (d + 2) 4 qk_268 2 [some (.ref 55), some (.int (iN i)), some (.int (iN 0)), none] [] h R := by
    simp (disch := first | assumption | omega) only [e268_0, e268_1, e268_3, e268_4, e268_7, e268_8, e268_9, e268_12, e268_13, e268_16, e268_17, e268_18, e268_19, e268_20, e268_21, e268_22, e268_23, e268_26, e268_27, e268_28, e268_31, e268_32, e268_35, e268_36, e268_37, e268_38, e268_39, e268_40, e268_41, e268_42, e268_45, e268_48, e268_49, e268_50, e268_51, e268_54, e268_55, e268_56, e268_57, e268_60, e268_63, e268_66, e268_69, m268, ↓reduceIte, qg_0, qg_1, qg_2, qg_3, qg_4, qg_5, qg_6, qg_7, qg_8, qg_9, qg_10, qg_11, qg_12, qg_13, not_true_eq_false, not_false_eq_true, Nat.reduceBEq, Bool.false_eq_true, ex1, ex3, ex4, exF, qfit_i, qfit_l, qfit_r, qfit_n, qfit_b0, qfit_b1, qcat_i, qcat_r, qcat_n, qcat_l, qroom_0, qroom_c, List.map_cons, List.map_nil, List.sum_cons, List.sum_nil, Nat.reduceAdd, Nat.reduceMul, Nat.reduceLT, Nat.reduceLeDiff, Nat.reduceEqDiff, Nat.reduceSub, decide_true, true_and, and_true, and_self, if_true, if_false, Option.toList_some, Option.toList_none, List.cons_append, List.nil_append, qsL, qlong, List.length_cons, List.length_nil, iN_L, vM1, vM2, exI, iN_add, iN_mul, iN_le, iN_lt, iN_eq, Nat.le_refl, qfN0, qfN1]
  rw [r0, r2 R, e268_2]
  simp (disch := first | assumption | omega) only [e268_0, e268_1, e268_3, e268_4, e268_7, e268_8, e268_9, e268_12, e268_13, e268_16, e268_17, e268_18, e268_19, e268_20, e268_21, e268_22, e268_23, e268_26, e268_27, e268_28, e268_31, e268_32, e268_35, e268_36, e268_37, e268_38, e268_39, e268_40, e268_41, e268_42, e268_45, e268_48, e268_49, e268_50, e268_51, e268_54, e268_55, e268_56, e268_57, e268_60, e268_63, e268_66, e268_69, m268, ↓reduceIte, qg_0, qg_1, qg_2, qg_3, qg_4, qg_5, qg_6, qg_7, qg_8, qg_9, qg_10, qg_11, qg_12, qg_13, not_true_eq_false, not_false_eq_true, Nat.reduceBEq, Bool.false_eq_true, ex1, ex3, ex4, exF, qfit_i, qfit_l, qfit_r, qfit_n, qfit_b0, qfit_b1, qcat_i, qcat_r, qcat_n, qcat_l, qroom_0, qroom_c, List.map_cons, List.map_nil, List.sum_cons, List.sum_nil, Nat.reduceAdd, Nat.reduceMul, Nat.reduceLT, Nat.reduceLeDiff, Nat.reduceEqDiff, Nat.reduceSub, decide_true, true_and, and_true, and_self, if_true, if_false, Option.toList_some, Option.toList_none, List.cons_append, List.nil_append, qsL, qlong, List.length_cons, List.length_nil, iN_L, vM1, vM2, exI, iN_add, iN_mul, iN_le, iN_lt, iN_eq, Nat.le_refl, qfN0, qfN1, gM_2, rM_57, c57]
end WALK

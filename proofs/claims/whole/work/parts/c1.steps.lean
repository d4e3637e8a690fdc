/-! ===== THE REFERENCE: steps, walk, far ===== -/
section STEPS
variable {d : Nat} {h : qH} {bs : List bdy}
theorem bit1 {m p : Nat} (hm : m < 2147483648) (hp : p < 32) (hb : m.testBit p = true) : iN m >>> (iN p &&& iN 31) &&& iN 1 = iN 1 := by rw [iN_bit hm hp, if_pos hb]
theorem bit0 {m p : Nat} (hm : m < 2147483648) (hp : p < 32) (hb : m.testBit p = false) : iN m >>> (iN p &&& iN 31) &&& iN 1 = iN 0 := by rw [iN_bit hm hp, hb]; rfl
theorem mask_or {f g : Nat → Bool} {n : Nat} : mask f n ||| mask g n = mask (fun c => f c || g c) n := by
  apply Nat.eq_of_testBit_eq
  intro k
  rw [Nat.testBit_or, mask_bit, mask_bit, mask_bit]
  cases decide (k < n) <;> rfl
theorem mask_if {g : Nat → Bool} {n : Nat} {b : Bool} : (if b = true then mask g n else 0) = mask (fun c => b && g c) n := by
  cases b with
  | true => rw [if_pos rfl]; exact mask_ext fun k _ => (Bool.true_and _).symm
  | false =>
    rw [if_neg (by decide)]
    refine mask_eq (Nat.two_pow_pos n) fun k _ => ?_
    rw [Nat.zero_testBit, Bool.false_and]
/-- those beside some of the first k -/
def nxM (adj : Nat → Nat → Bool) (r : Nat → Bool) (k c : Nat) : Bool := r c || anyN (fun u => r u && adj u c) k
theorem nxM_step {adj : Nat → Nat → Bool} {r : Nat → Bool} {k n : Nat} : mask (nxM adj r k) n ||| (if r k = true then mask (adj k) n else 0) = mask (nxM adj r (k + 1)) n := by
  rw [mask_if, mask_or]
  refine mask_ext fun c _ => ?_
  unfold nxM
  rw [anyN, Bool.or_assoc]
theorem rch_nx {adj : Nat → Nat → Bool} {n a t : Nat} : rch adj n a (t + 1) = nxM adj (rch adj n a t) n := rfl
theorem pow_mask {a n : Nat} (ha : a < n) : 2 ^ a = mask (fun c => decide (c = a)) n := by
  refine mask_eq (Nat.pow_lt_pow_right (by decide) ha) fun k hk => ?_
  rw [Nat.testBit_two_pow]
  exact decide_eq_decide.mpr ⟨Eq.symm, Eq.symm⟩
set_option maxRecDepth 100000 in
set_option maxHeartbeats 16000000 in
theorem s_steps {i a b n : Nat} {adj : Nat → Nat → Bool} (s : ShM h) (hi' : i < 24) (hn : hi h 57 i = iN n) (h16 : n ≤ 16) (v : BeV h n adj) (hc : cnA adj n) (ha : a < n) (hb : b < n) : ∃ t, (t ≤ n ∧ rch adj n a t b = true ∧ ∀ k, k < t → ¬ rch adj n a k b = true) ∧ ∀ R, qMC (d + 1) 269 [.ref 55, .int (iN i), .int (iN a), .int (iN b)] h R ↔ R = (some (.int (iN t)), h) := by
  obtain ⟨t, t1, t2, t3⟩ := least (rch_all hc ha hb)
  refine ⟨t, ⟨t1, t2, t3⟩, fun R => ?_⟩
  have m16 : ∀ f, mask f n < 2147483648 := fun f => Nat.lt_trans (mask_16 h16) (by decide)
  have bitv : ∀ (f : Nat → Bool) k, k < n → (mask f n).testBit k = f k := fun f k hk => by rw [mask_bit, decide_eq_true hk, Bool.true_and]
  obtain ⟨L2, h2, ⟨x6, x7, rfl, rfl⟩, r2⟩ := loop_inv (d := d) (rt := 0) (K := qk_269) (pc := 8) (P := fun k L h' => ∃ x6 x7, L = [some (.ref 55), some (.int (iN i)), some (.int (iN a)), some (.int (iN b)), some (.int (iN (mask (rch adj n a k) n))), some (.int (iN k)), x6, x7] ∧ h' = h) (n := t) (fun k L h' hk hP => by
    obtain ⟨x6, x7, rfl, rfl⟩ := hP
    have nb : rch adj n a k b = false := by cases e : rch adj n a k b with | false => rfl | true => exact absurd e (t3 k hk)
    refine ⟨[some (.ref 55), some (.int (iN i)), some (.int (iN a)), some (.int (iN b)), some (.int (iN (mask (rch adj n a (k + 1)) n))), some (.int (iN (k + 1))), some (.int (iN (mask (rch adj n a (k + 1)) n))), some (.int (iN n))], h', ⟨_, _, rfl, rfl⟩, fun R => ?_⟩
    have hb0 := bit0 (m := mask (rch adj n a k) n) (p := b) (m16 _) (by omega) (by rw [bitv _ b hb]; exact nb)
    have r0 : qEv d 0 qk_269 8 [some (.ref 55), some (.int (iN i)), some (.int (iN a)), some (.int (iN b)), some (.int (iN (mask (rch adj n a k) n))), some (.int (iN k)), x6, x7] [] h' R ↔ qEv d 0 qk_269 24 [some (.ref 55), some (.int (iN i)), some (.int (iN a)), some (.int (iN b)), some (.int (iN (mask (rch adj n a k) n))), some (.int (iN k)), some (.int (iN (mask (nxM adj (rch adj n a k) 0) n))), some (.int (iN 0))] [] h' R := by
      rw [e269_8, show mask (nxM adj (rch adj n a k) 0) n = mask (rch adj n a k) n from mask_ext fun c _ => by unfold nxM; rw [anyN, Bool.or_false]]
      simp (disch := first | assumption | omega) only [e269_0, e269_1, e269_2, e269_3, e269_5, e269_6, e269_10, e269_11, e269_12, e269_13, e269_14, e269_17, e269_19, e269_21, e269_22, e269_26, e269_27, e269_30, e269_31, e269_32, e269_35, e269_37, e269_39, e269_41, e269_42, e269_43, e269_44, e269_45, e269_48, e269_49, e269_52, e269_54, e269_55, e269_58, e269_59, e269_60, e269_62, e269_65, e269_68, e269_70, e269_72, e269_75, e269_78, e269_80, m269, ↓reduceIte, qg_0, qg_1, qg_2, qg_3, qg_4, qg_5, qg_6, qg_7, qg_8, qg_9, qg_10, qg_11, qg_12, qg_13, not_true_eq_false, not_false_eq_true, Nat.reduceBEq, Bool.false_eq_true, ex1, ex3, ex4, exF, qfit_i, qfit_l, qfit_r, qfit_n, qfit_b0, qfit_b1, qcat_i, qcat_r, qcat_n, qcat_l, qroom_0, qroom_c, List.map_cons, List.map_nil, List.sum_cons, List.sum_nil, Nat.reduceAdd, Nat.reduceMul, Nat.reduceLT, Nat.reduceLeDiff, Nat.reduceEqDiff, Nat.reduceSub, decide_true, true_and, and_true, and_self, if_true, if_false, Option.toList_some, Option.toList_none, List.cons_append, List.nil_append, qsL, qlong, List.length_cons, List.length_nil, iN_L, vM1, vM2, exI, iN_add, iN_mul, iN_le, iN_lt, iN_eq, Nat.le_refl, qfN0, qfN1, hb0]
    rw [r0]
    refine Iff.trans (loop_up (n := n) (L := fun c => [some (.ref 55), some (.int (iN i)), some (.int (iN a)), some (.int (iN b)), some (.int (iN (mask (rch adj n a k) n))), some (.int (iN k)), some (.int (iN (mask (nxM adj (rch adj n a k) c) n))), some (.int (iN c))]) (H := fun _ => h') ?_) ?_
    · intro c hcn
      try dsimp only
      rw [e269_24, ← nxM_step]
      have vc := v c hcn
      cases q : rch adj n a k c with
      | true =>
        have bt := bit1 (m := mask (rch adj n a k) n) (p := c) (m16 _) (by omega) (by rw [bitv _ c hcn]; exact q)
        simp (disch := first | assumption | omega) only [e269_0, e269_1, e269_2, e269_3, e269_5, e269_6, e269_8, e269_10, e269_11, e269_12, e269_13, e269_14, e269_17, e269_19, e269_21, e269_22, e269_26, e269_27, e269_30, e269_31, e269_32, e269_35, e269_37, e269_39, e269_41, e269_42, e269_43, e269_44, e269_45, e269_48, e269_49, e269_52, e269_54, e269_55, e269_58, e269_59, e269_60, e269_62, e269_65, e269_70, e269_72, e269_75, e269_78, e269_80, m269, ↓reduceIte, qg_0, qg_1, qg_2, qg_3, qg_4, qg_5, qg_6, qg_7, qg_8, qg_9, qg_10, qg_11, qg_12, qg_13, not_true_eq_false, not_false_eq_true, Nat.reduceBEq, Bool.false_eq_true, ex1, ex3, ex4, exF, qfit_i, qfit_l, qfit_r, qfit_n, qfit_b0, qfit_b1, qcat_i, qcat_r, qcat_n, qcat_l, qroom_0, qroom_c, List.map_cons, List.map_nil, List.sum_cons, List.sum_nil, Nat.reduceAdd, Nat.reduceMul, Nat.reduceLT, Nat.reduceLeDiff, Nat.reduceEqDiff, Nat.reduceSub, decide_true, true_and, and_true, and_self, if_true, if_false, Option.toList_some, Option.toList_none, List.cons_append, List.nil_append, qsL, qlong, List.length_cons, List.length_nil, iN_L, vM1, vM2, exI, iN_add, iN_mul, iN_le, iN_lt, iN_eq, Nat.le_refl, qfN0, qfN1, gM_2, rM_57, hn, show ¬ n ≤ c by omega, bt, gM_37, rM_82, vc, iN_or, if_true]
      | false =>
        have bt := bit0 (m := mask (rch adj n a k) n) (p := c) (m16 _) (by omega) (by rw [bitv _ c hcn]; exact q)
        simp (disch := first | assumption | omega) only [e269_0, e269_1, e269_2, e269_3, e269_5, e269_6, e269_8, e269_10, e269_11, e269_12, e269_13, e269_14, e269_17, e269_19, e269_21, e269_22, e269_26, e269_27, e269_30, e269_31, e269_32, e269_35, e269_37, e269_39, e269_41, e269_42, e269_43, e269_44, e269_45, e269_48, e269_49, e269_52, e269_54, e269_55, e269_58, e269_59, e269_60, e269_62, e269_65, e269_70, e269_72, e269_75, e269_78, e269_80, m269, ↓reduceIte, qg_0, qg_1, qg_2, qg_3, qg_4, qg_5, qg_6, qg_7, qg_8, qg_9, qg_10, qg_11, qg_12, qg_13, not_true_eq_false, not_false_eq_true, Nat.reduceBEq, Bool.false_eq_true, ex1, ex3, ex4, exF, qfit_i, qfit_l, qfit_r, qfit_n, qfit_b0, qfit_b1, qcat_i, qcat_r, qcat_n, qcat_l, qroom_0, qroom_c, List.map_cons, List.map_nil, List.sum_cons, List.sum_nil, Nat.reduceAdd, Nat.reduceMul, Nat.reduceLT, Nat.reduceLeDiff, Nat.reduceEqDiff, Nat.reduceSub, decide_true, true_and, and_true, and_self, if_true, if_false, Option.toList_some, Option.toList_none, List.cons_append, List.nil_append, qsL, qlong, List.length_cons, List.length_nil, iN_L, vM1, vM2, exI, iN_add, iN_mul, iN_le, iN_lt, iN_eq, Nat.le_refl, qfN0, qfN1, gM_2, rM_57, hn, show ¬ n ≤ c by omega, bt, show ¬ iN 0 = iN 1 by decide, iN_or, Bool.false_eq_true, if_false, Nat.or_zero]
    · try dsimp only
      rw [e269_24, rch_nx]
      simp (disch := first | assumption | omega) only [e269_0, e269_1, e269_2, e269_3, e269_5, e269_6, e269_10, e269_11, e269_12, e269_13, e269_14, e269_17, e269_19, e269_21, e269_22, e269_26, e269_27, e269_30, e269_31, e269_32, e269_35, e269_37, e269_39, e269_41, e269_42, e269_43, e269_44, e269_45, e269_48, e269_49, e269_52, e269_54, e269_55, e269_58, e269_59, e269_60, e269_62, e269_65, e269_68, e269_70, e269_72, e269_75, e269_78, e269_80, m269, ↓reduceIte, qg_0, qg_1, qg_2, qg_3, qg_4, qg_5, qg_6, qg_7, qg_8, qg_9, qg_10, qg_11, qg_12, qg_13, not_true_eq_false, not_false_eq_true, Nat.reduceBEq, Bool.false_eq_true, ex1, ex3, ex4, exF, qfit_i, qfit_l, qfit_r, qfit_n, qfit_b0, qfit_b1, qcat_i, qcat_r, qcat_n, qcat_l, qroom_0, qroom_c, List.map_cons, List.map_nil, List.sum_cons, List.sum_nil, Nat.reduceAdd, Nat.reduceMul, Nat.reduceLT, Nat.reduceLeDiff, Nat.reduceEqDiff, Nat.reduceSub, decide_true, true_and, and_true, and_self, if_true, if_false, Option.toList_some, Option.toList_none, List.cons_append, List.nil_append, qsL, qlong, List.length_cons, List.length_nil, iN_L, vM1, vM2, exI, iN_add, iN_mul, iN_le, iN_lt, iN_eq, Nat.le_refl, qfN0, qfN1, gM_2, rM_57, hn]) (L := [some (.ref 55), some (.int (iN i)), some (.int (iN a)), some (.int (iN b)), some (.int (iN (mask (rch adj n a 0) n))), some (.int (iN 0)), none, none]) (h := h) ⟨none, none, rfl, rfl⟩
  have r0 : qMC (d + 1) 269 [.ref 55, .int (iN i), .int (iN a), .int (iN b)] h2 R ↔ qEv d 0 qk_269 8 [some (.ref 55), some (.int (iN i)), some (.int (iN a)), some (.int (iN b)), some (.int (iN (mask (rch adj n a 0) n))), some (.int (iN 0)), none, none] [] h2 R := by
    rw [show mask (rch adj n a 0) n = 2 ^ a from (pow_mask ha).symm]
    simp (disch := first | assumption | omega) only [e269_0, e269_1, e269_2, e269_3, e269_5, e269_6, e269_10, e269_11, e269_12, e269_13, e269_14, e269_17, e269_19, e269_21, e269_22, e269_24, e269_26, e269_27, e269_30, e269_31, e269_32, e269_35, e269_37, e269_39, e269_41, e269_42, e269_43, e269_44, e269_45, e269_48, e269_49, e269_52, e269_54, e269_55, e269_58, e269_59, e269_60, e269_62, e269_65, e269_68, e269_70, e269_72, e269_75, e269_78, e269_80, m269, ↓reduceIte, qg_0, qg_1, qg_2, qg_3, qg_4, qg_5, qg_6, qg_7, qg_8, qg_9, qg_10, qg_11, qg_12, qg_13, not_true_eq_false, not_false_eq_true, Nat.reduceBEq, Bool.false_eq_true, ex1, ex3, ex4, exF, qfit_i, qfit_l, qfit_r, qfit_n, qfit_b0, qfit_b1, qcat_i, qcat_r, qcat_n, qcat_l, qroom_0, qroom_c, List.map_cons, List.map_nil, List.sum_cons, List.sum_nil, Nat.reduceAdd, Nat.reduceMul, Nat.reduceLT, Nat.reduceLeDiff, Nat.reduceEqDiff, Nat.reduceSub, decide_true, true_and, and_true, and_self, if_true, if_false, Option.toList_some, Option.toList_none, List.cons_append, List.nil_append, qsL, qlong, List.length_cons, List.length_nil, iN_L, vM1, vM2, exI, iN_add, iN_mul, iN_le, iN_lt, iN_eq, Nat.le_refl, qfN0, qfN1, iN_shl1]
  have hb1 := bit1 (m := mask (rch adj n a t) n) (p := b) (m16 _) (by omega) (by rw [bitv _ b hb]; exact t2)
  rw [r0, r2 R, e269_8]
  simp (disch := first | assumption | omega) only [e269_0, e269_1, e269_2, e269_3, e269_5, e269_6, e269_10, e269_11, e269_12, e269_13, e269_14, e269_17, e269_19, e269_21, e269_22, e269_24, e269_26, e269_27, e269_30, e269_31, e269_32, e269_35, e269_37, e269_39, e269_41, e269_42, e269_43, e269_44, e269_45, e269_48, e269_49, e269_52, e269_54, e269_55, e269_58, e269_59, e269_60, e269_62, e269_65, e269_68, e269_70, e269_72, e269_75, e269_78, e269_80, m269, ↓reduceIte, qg_0, qg_1, qg_2, qg_3, qg_4, qg_5, qg_6, qg_7, qg_8, qg_9, qg_10, qg_11, qg_12, qg_13, not_true_eq_false, not_false_eq_true, Nat.reduceBEq, Bool.false_eq_true, ex1, ex3, ex4, exF, qfit_i, qfit_l, qfit_r, qfit_n, qfit_b0, qfit_b1, qcat_i, qcat_r, qcat_n, qcat_l, qroom_0, qroom_c, List.map_cons, List.map_nil, List.sum_cons, List.sum_nil, Nat.reduceAdd, Nat.reduceMul, Nat.reduceLT, Nat.reduceLeDiff, Nat.reduceEqDiff, Nat.reduceSub, decide_true, true_and, and_true, and_self, if_true, if_false, Option.toList_some, Option.toList_none, List.cons_append, List.nil_append, qsL, qlong, List.length_cons, List.length_nil, iN_L, vM1, vM2, exI, iN_add, iN_mul, iN_le, iN_lt, iN_eq, Nat.le_refl, qfN0, qfN1, hb1, iN10]
/-- how far two corners are apart -/
noncomputable def dist (adj : Nat → Nat → Bool) (n a b : Nat) : Nat := if h : ∃ t, t ≤ n ∧ rch adj n a t b = true ∧ ∀ k, k < t → ¬ rch adj n a k b = true then Classical.choose h else 0
theorem dist_eq {adj : Nat → Nat → Bool} {n a b t : Nat} (h : t ≤ n ∧ rch adj n a t b = true ∧ ∀ k, k < t → ¬ rch adj n a k b = true) : dist adj n a b = t := by
  unfold dist
  rw [dif_pos ⟨t, h⟩]
  obtain ⟨a1, a2, a3⟩ := Classical.choose_spec (⟨t, h⟩ : ∃ t, t ≤ n ∧ rch adj n a t b = true ∧ ∀ k, k < t → ¬ rch adj n a k b = true)
  rcases Nat.lt_trichotomy (Classical.choose (⟨t, h⟩ : ∃ t, t ≤ n ∧ rch adj n a t b = true ∧ ∀ k, k < t → ¬ rch adj n a k b = true)) t with w | w | w
  · exact absurd a2 (h.2.2 _ w)
  · exact w
  · exact absurd h.2.1 (a3 _ w)
theorem dist_le {adj : Nat → Nat → Bool} {n a b : Nat} (hc : cnA adj n) (ha : a < n) (hb : b < n) : dist adj n a b ≤ n := by
  obtain ⟨t, h⟩ := least (rch_all hc ha hb)
  rw [dist_eq h]; exact h.1
theorem s_dist {i a b n : Nat} {adj : Nat → Nat → Bool} (s : ShM h) (hi' : i < 24) (hn : hi h 57 i = iN n) (h16 : n ≤ 16) (v : BeV h n adj) (hc : cnA adj n) (ha : a < n) (hb : b < n) (R : qRes) : qMC (d + 1) 269 [.ref 55, .int (iN i), .int (iN a), .int (iN b)] h R ↔ R = (some (.int (iN (dist adj n a b))), h) := by
  obtain ⟨t, h1, h2⟩ := s_steps (d := d) s hi' hn h16 v hc ha hb
  rw [dist_eq h1]; exact h2 R
/-- a corner of body x -/
def isC (bs : List bdy) (x y : Int32) : Prop := ∃ i c, (i < bs.length ∧ x = iN i) ∧ c < (cnr bs i).length ∧ y = iN c
noncomputable def wlkR (bs : List bdy) (x y z v : Int32) : Prop := (¬ (isC bs x y ∧ isC bs x z) ∧ v = -1001) ∨ ∃ i a b, (i < bs.length ∧ x = iN i) ∧ (a < (cnr bs i).length ∧ y = iN a) ∧ (b < (cnr bs i).length ∧ z = iN b) ∧ v = iN (dist (adjB (cel bs i 1)) (cnr bs i).length a b)
theorem iN_inj {a b : Nat} (ha : a < 2147483648) (hb : b < 2147483648) (e : iN a = iN b) : a = b := (iN_eq ha hb).mp e
theorem isC_two {x y z : Int32} (b24 : bs.length ≤ 24) (h1 : isC bs x y) (h2 : isC bs x z) : ∃ i a b, (i < bs.length ∧ x = iN i) ∧ (a < (cnr bs i).length ∧ y = iN a) ∧ (b < (cnr bs i).length ∧ z = iN b) := by
  obtain ⟨i, a, ⟨hi', hx⟩, ha, hy⟩ := h1
  obtain ⟨j, b, ⟨hj, hx'⟩, hb, hz⟩ := h2
  have e : i = j := iN_inj (by omega) (by omega) (hx.symm.trans hx')
  subst e
  exact ⟨i, a, b, ⟨hi', hx⟩, ⟨ha, hy⟩, hb, hz⟩
set_option maxRecDepth 100000 in
set_option maxHeartbeats 16000000 in
theorem s_walk (s : ShM h) (B : BsM h bs) (x y z : Int32) : ∃ v h', (∀ R, qMC (d + 4) 270 [.ref 55, .int x, .int y, .int z] h R ↔ R = (some (.int v), h')) ∧ Ch [82] [] h h' ∧ wlkR bs x y z v := by
  have n1 : ¬ (1 : Int32) = iN 0 := by decide
  obtain ⟨y1, y0⟩ := s_isCornerOf (d := d) s B x y
  obtain ⟨z1, z0⟩ := s_isCornerOf (d := d) s B x z
  by_cases hy : isC bs x y
  · by_cases hz : isC bs x z
    · obtain ⟨i, a, b, ⟨hi', rfl⟩, ⟨ha, rfl⟩, hb, rfl⟩ := isC_two B.1 hy hz
      have b24 := B.1
      have cl := (B.corn hi').2.1
      obtain ⟨h1, r1, c1, v1⟩ := s_findBeside (d := d) s B hi'
      have s1 := c1.sh
      have B1 : BsM h1 bs := B.ch c1 (by decide) (by decide)
      have sd := fun R => s_dist (d := d + 2) s1 (by omega) (B1.corn hi').1 cl v1 (B.conn hi') ha hb R
      refine ⟨_, h1, fun R => ?_, c1, Or.inr ⟨i, a, b, ⟨hi', rfl⟩, ⟨ha, rfl⟩, ⟨hb, rfl⟩, rfl⟩⟩
      have y1' := y1 hy
      have z1' := z1 hz
      simp (disch := first | assumption | omega) only [e270_0, e270_1, e270_2, e270_3, e270_6, e270_9, e270_10, e270_11, e270_12, e270_15, e270_18, e270_21, e270_22, e270_23, e270_24, e270_27, e270_28, e270_29, e270_30, e270_31, e270_34, m270, ↓reduceIte, qg_0, qg_1, qg_2, qg_3, qg_4, qg_5, qg_6, qg_7, qg_8, qg_9, qg_10, qg_11, qg_12, qg_13, not_true_eq_false, not_false_eq_true, Nat.reduceBEq, Bool.false_eq_true, ex1, ex3, ex4, exF, qfit_i, qfit_l, qfit_r, qfit_n, qfit_b0, qfit_b1, qcat_i, qcat_r, qcat_n, qcat_l, qroom_0, qroom_c, List.map_cons, List.map_nil, List.sum_cons, List.sum_nil, Nat.reduceAdd, Nat.reduceMul, Nat.reduceLT, Nat.reduceLeDiff, Nat.reduceEqDiff, Nat.reduceSub, decide_true, true_and, and_true, and_self, if_true, if_false, Option.toList_some, Option.toList_none, List.cons_append, List.nil_append, qsL, qlong, List.length_cons, List.length_nil, iN_L, vM1, vM2, exI, iN_add, iN_mul, iN_le, iN_lt, iN_eq, Nat.le_refl, qfN0, qfN1, y1', z1', n1, r1, sd]
    · refine ⟨-1001, h, fun R => ?_, Ch.refl s, Or.inl ⟨fun q => hz q.2, rfl⟩⟩
      have y1' := y1 hy
      have z0' := z0 hz
      simp (disch := first | assumption | omega) only [e270_0, e270_1, e270_2, e270_3, e270_6, e270_9, e270_10, e270_11, e270_12, e270_15, e270_18, e270_21, e270_22, e270_23, e270_24, e270_27, e270_28, e270_29, e270_30, e270_31, e270_34, m270, ↓reduceIte, qg_0, qg_1, qg_2, qg_3, qg_4, qg_5, qg_6, qg_7, qg_8, qg_9, qg_10, qg_11, qg_12, qg_13, not_true_eq_false, not_false_eq_true, Nat.reduceBEq, Bool.false_eq_true, ex1, ex3, ex4, exF, qfit_i, qfit_l, qfit_r, qfit_n, qfit_b0, qfit_b1, qcat_i, qcat_r, qcat_n, qcat_l, qroom_0, qroom_c, List.map_cons, List.map_nil, List.sum_cons, List.sum_nil, Nat.reduceAdd, Nat.reduceMul, Nat.reduceLT, Nat.reduceLeDiff, Nat.reduceEqDiff, Nat.reduceSub, decide_true, true_and, and_true, and_self, if_true, if_false, Option.toList_some, Option.toList_none, List.cons_append, List.nil_append, qsL, qlong, List.length_cons, List.length_nil, iN_L, vM1, vM2, exI, iN_add, iN_mul, iN_le, iN_lt, iN_eq, Nat.le_refl, qfN0, qfN1, y1', z0', n1]
  · refine ⟨-1001, h, fun R => ?_, Ch.refl s, Or.inl ⟨fun q => hy q.1, rfl⟩⟩
    have y0' := y0 hy
    simp (disch := first | assumption | omega) only [e270_0, e270_1, e270_2, e270_3, e270_6, e270_9, e270_10, e270_11, e270_12, e270_15, e270_18, e270_21, e270_22, e270_23, e270_24, e270_27, e270_28, e270_29, e270_30, e270_31, e270_34, m270, ↓reduceIte, qg_0, qg_1, qg_2, qg_3, qg_4, qg_5, qg_6, qg_7, qg_8, qg_9, qg_10, qg_11, qg_12, qg_13, not_true_eq_false, not_false_eq_true, Nat.reduceBEq, Bool.false_eq_true, ex1, ex3, ex4, exF, qfit_i, qfit_l, qfit_r, qfit_n, qfit_b0, qfit_b1, qcat_i, qcat_r, qcat_n, qcat_l, qroom_0, qroom_c, List.map_cons, List.map_nil, List.sum_cons, List.sum_nil, Nat.reduceAdd, Nat.reduceMul, Nat.reduceLT, Nat.reduceLeDiff, Nat.reduceEqDiff, Nat.reduceSub, decide_true, true_and, and_true, and_self, if_true, if_false, Option.toList_some, Option.toList_none, List.cons_append, List.nil_append, qsL, qlong, List.length_cons, List.length_nil, iN_L, vM1, vM2, exI, iN_add, iN_mul, iN_le, iN_lt, iN_eq, Nat.le_refl, qfN0, qfN1, y0']
/-- the greatest of all f a b, a, b below n -/
def mxN (f : Nat → Nat) : Nat → Nat
  | 0 => 0
  | n + 1 => if mxN f n < f n then f n else mxN f n
noncomputable def mx2 (f : Nat → Nat → Nat) (n : Nat) : Nat → Nat → Nat
  | 0, m0 => m0
  | k + 1, m0 => let m := mx2 f n k m0; if m < f k n then f k n else m
/-- a running maximum -/
def rmx (m0 : Nat) (f : Nat → Nat) : Nat → Nat
  | 0 => m0
  | n + 1 => if rmx m0 f n < f n then f n else rmx m0 f n
theorem rmx_le {m0 B : Nat} {f : Nat → Nat} (h0 : m0 ≤ B) : ∀ n, (∀ k, k < n → f k ≤ B) → rmx m0 f n ≤ B
  | 0, _ => h0
  | n + 1, h => by
    rw [rmx]
    split
    · exact h n (by omega)
    · exact rmx_le h0 n fun k hk => h k (by omega)
/-- the greatest distance, row by row -/
noncomputable def farN (adj : Nat → Nat → Bool) (n : Nat) : Nat → Nat
  | 0 => 0
  | a + 1 => rmx (farN adj n a) (dist adj n a) n
noncomputable def farR (bs : List bdy) (x v : Int32) : Prop := ((¬ ∃ i, i < bs.length ∧ x = iN i) ∧ v = -1001) ∨ ∃ i, (i < bs.length ∧ x = iN i) ∧ v = iN (farN (adjB (cel bs i 1)) (cnr bs i).length (cnr bs i).length)
set_option maxRecDepth 100000 in
set_option maxHeartbeats 16000000 in
theorem s_far (s : ShM h) (B : BsM h bs) (x : Int32) : ∃ v h', (∀ R, qMC (d + 4) 271 [.ref 55, .int x] h R ↔ R = (some (.int v), h')) ∧ Ch [82] [] h h' ∧ farR bs x v := by
  have n1 : ¬ (1 : Int32) = iN 0 := by decide
  by_cases hx : ∃ i, i < bs.length ∧ x = iN i
  · obtain ⟨i, hi', rfl⟩ := id hx
    have b24 := B.1
    have cl := (B.corn hi').2.1
    obtain ⟨h1, r1, c1, v1⟩ := s_findBeside (d := d) s B hi'
    have s1 := c1.sh
    have B1 : BsM h1 bs := B.ch c1 (by decide) (by decide)
    have cn := B.conn hi'
    have c57 := (B1.corn hi').1
    refine ⟨_, h1, fun R => ?_, c1, Or.inr ⟨i, ⟨hi', rfl⟩, rfl⟩⟩
    obtain ⟨n, en⟩ : ∃ n, n = (cnr bs i).length := ⟨_, rfl⟩
    obtain ⟨adj, ea⟩ : ∃ adj, adj = adjB (cel bs i 1) := ⟨_, rfl⟩
    rw [← en, ← ea] at v1 cn ⊢
    rw [← en] at c57 cl
    have sd := fun a b (ha : a < n) (hb : b < n) R => s_dist (d := d + 2) s1 (by omega) c57 cl v1 cn ha hb R
    have fb : ∀ a, a ≤ n → farN adj n a ≤ n := by
      intro a
      induction a with
      | zero => exact fun _ => Nat.zero_le _
      | succ a ih => intro ha; exact rmx_le (ih (by omega)) n fun k hk => dist_le cn (by omega) hk
    obtain ⟨L2, h2, ⟨x4, x5, rfl, rfl⟩, r2⟩ := loop_inv (d := d + 3) (rt := 0) (K := qk_271) (pc := 21) (P := fun a L h' => ∃ x4 x5, L = [some (.ref 55), some (.int (iN i)), some (.int (iN (farN adj n a))), some (.int (iN a)), x4, x5] ∧ h' = h1) (n := n) (fun a L h' ha hP => by
      obtain ⟨x4, x5, rfl, rfl⟩ := hP
      have fa := fb a (by omega)
      obtain ⟨L3, h3, ⟨x5', rfl, rfl⟩, r3⟩ := loop_inv (d := d + 3) (rt := 0) (K := qk_271) (pc := 34) (P := fun b L h2 => ∃ x5, L = [some (.ref 55), some (.int (iN i)), some (.int (iN (rmx (farN adj n a) (dist adj n a) b))), some (.int (iN a)), some (.int (iN b)), x5] ∧ h2 = h') (n := n) (fun b L h2 hb hP => by
        obtain ⟨x5, rfl, rfl⟩ := hP
        have sdb := sd a b ha hb
        have db := dist_le cn ha hb
        have rb := rmx_le (m0 := farN adj n a) (f := dist adj n a) fa b fun k hk => dist_le cn ha (by omega)
        refine ⟨[some (.ref 55), some (.int (iN i)), some (.int (iN (rmx (farN adj n a) (dist adj n a) (b + 1)))), some (.int (iN a)), some (.int (iN (b + 1))), some (.int (iN (dist adj n a b)))], h2, ⟨_, rfl, rfl⟩, fun R => ?_⟩
        rw [e271_34, rmx]
        by_cases q : rmx (farN adj n a) (dist adj n a) b < dist adj n a b
        · rw [if_pos q]
          simp (disch := first | assumption | omega) only [e271_0, e271_1, e271_2, e271_5, e271_8, e271_11, e271_12, e271_13, e271_14, e271_17, e271_18, e271_19, e271_20, e271_21, e271_22, e271_23, e271_26, e271_27, e271_28, e271_31, e271_32, e271_36, e271_37, e271_40, e271_41, e271_42, e271_45, e271_46, e271_47, e271_48, e271_50, e271_53, e271_55, e271_57, e271_58, e271_61, e271_63, e271_66, e271_67, e271_68, e271_71, e271_77, e271_80, e271_81, m271, ↓reduceIte, qg_0, qg_1, qg_2, qg_3, qg_4, qg_5, qg_6, qg_7, qg_8, qg_9, qg_10, qg_11, qg_12, qg_13, not_true_eq_false, not_false_eq_true, Nat.reduceBEq, Bool.false_eq_true, ex1, ex3, ex4, exF, qfit_i, qfit_l, qfit_r, qfit_n, qfit_b0, qfit_b1, qcat_i, qcat_r, qcat_n, qcat_l, qroom_0, qroom_c, List.map_cons, List.map_nil, List.sum_cons, List.sum_nil, Nat.reduceAdd, Nat.reduceMul, Nat.reduceLT, Nat.reduceLeDiff, Nat.reduceEqDiff, Nat.reduceSub, decide_true, true_and, and_true, and_self, if_true, if_false, Option.toList_some, Option.toList_none, List.cons_append, List.nil_append, qsL, qlong, List.length_cons, List.length_nil, iN_L, vM1, vM2, exI, iN_add, iN_mul, iN_le, iN_lt, iN_eq, Nat.le_refl, qfN0, qfN1, gM_2, rM_57, c57, show ¬ n ≤ b by omega, sdb, show ¬ dist adj n a b ≤ rmx (farN adj n a) (dist adj n a) b by omega]
        · rw [if_neg q]
          simp (disch := first | assumption | omega) only [e271_0, e271_1, e271_2, e271_5, e271_8, e271_11, e271_12, e271_13, e271_14, e271_17, e271_18, e271_19, e271_20, e271_21, e271_22, e271_23, e271_26, e271_27, e271_28, e271_31, e271_32, e271_36, e271_37, e271_40, e271_41, e271_42, e271_45, e271_46, e271_47, e271_48, e271_50, e271_53, e271_55, e271_57, e271_58, e271_61, e271_63, e271_66, e271_67, e271_68, e271_71, e271_77, e271_80, e271_81, m271, ↓reduceIte, qg_0, qg_1, qg_2, qg_3, qg_4, qg_5, qg_6, qg_7, qg_8, qg_9, qg_10, qg_11, qg_12, qg_13, not_true_eq_false, not_false_eq_true, Nat.reduceBEq, Bool.false_eq_true, ex1, ex3, ex4, exF, qfit_i, qfit_l, qfit_r, qfit_n, qfit_b0, qfit_b1, qcat_i, qcat_r, qcat_n, qcat_l, qroom_0, qroom_c, List.map_cons, List.map_nil, List.sum_cons, List.sum_nil, Nat.reduceAdd, Nat.reduceMul, Nat.reduceLT, Nat.reduceLeDiff, Nat.reduceEqDiff, Nat.reduceSub, decide_true, true_and, and_true, and_self, if_true, if_false, Option.toList_some, Option.toList_none, List.cons_append, List.nil_append, qsL, qlong, List.length_cons, List.length_nil, iN_L, vM1, vM2, exI, iN_add, iN_mul, iN_le, iN_lt, iN_eq, Nat.le_refl, qfN0, qfN1, gM_2, rM_57, c57, show ¬ n ≤ b by omega, sdb, show dist adj n a b ≤ rmx (farN adj n a) (dist adj n a) b by omega]) (L := [some (.ref 55), some (.int (iN i)), some (.int (iN (rmx (farN adj n a) (dist adj n a) 0))), some (.int (iN a)), some (.int (iN 0)), x5]) (h := h') ⟨x5, rfl, rfl⟩
      refine ⟨[some (.ref 55), some (.int (iN i)), some (.int (iN (farN adj n (a + 1)))), some (.int (iN (a + 1))), some (.int (iN n)), x5'], h3, ⟨_, _, rfl, rfl⟩, fun R => ?_⟩
      have q1 : qEv (d + 3) 0 qk_271 21 [some (.ref 55), some (.int (iN i)), some (.int (iN (farN adj n a))), some (.int (iN a)), x4, x5] [] h3 R ↔ qEv (d + 3) 0 qk_271 34 [some (.ref 55), some (.int (iN i)), some (.int (iN (rmx (farN adj n a) (dist adj n a) 0))), some (.int (iN a)), some (.int (iN 0)), x5] [] h3 R := by
        rw [e271_21]
        simp (disch := first | assumption | omega) only [e271_0, e271_1, e271_2, e271_5, e271_8, e271_11, e271_12, e271_13, e271_14, e271_17, e271_18, e271_19, e271_20, e271_22, e271_23, e271_26, e271_27, e271_28, e271_31, e271_32, e271_36, e271_37, e271_40, e271_41, e271_42, e271_45, e271_46, e271_47, e271_48, e271_50, e271_53, e271_55, e271_57, e271_58, e271_61, e271_63, e271_66, e271_67, e271_68, e271_71, e271_74, e271_77, e271_80, e271_81, m271, ↓reduceIte, qg_0, qg_1, qg_2, qg_3, qg_4, qg_5, qg_6, qg_7, qg_8, qg_9, qg_10, qg_11, qg_12, qg_13, not_true_eq_false, not_false_eq_true, Nat.reduceBEq, Bool.false_eq_true, ex1, ex3, ex4, exF, qfit_i, qfit_l, qfit_r, qfit_n, qfit_b0, qfit_b1, qcat_i, qcat_r, qcat_n, qcat_l, qroom_0, qroom_c, List.map_cons, List.map_nil, List.sum_cons, List.sum_nil, Nat.reduceAdd, Nat.reduceMul, Nat.reduceLT, Nat.reduceLeDiff, Nat.reduceEqDiff, Nat.reduceSub, decide_true, true_and, and_true, and_self, if_true, if_false, Option.toList_some, Option.toList_none, List.cons_append, List.nil_append, qsL, qlong, List.length_cons, List.length_nil, iN_L, vM1, vM2, exI, iN_add, iN_mul, iN_le, iN_lt, iN_eq, Nat.le_refl, qfN0, qfN1, gM_2, rM_57, c57, show ¬ n ≤ a by omega]
        exact Iff.rfl
      rw [q1, r3 R, e271_34]
      simp (disch := first | assumption | omega) only [e271_0, e271_1, e271_2, e271_5, e271_8, e271_11, e271_12, e271_13, e271_14, e271_17, e271_18, e271_19, e271_20, e271_22, e271_23, e271_26, e271_27, e271_28, e271_31, e271_32, e271_36, e271_37, e271_40, e271_41, e271_42, e271_45, e271_46, e271_47, e271_48, e271_50, e271_53, e271_55, e271_57, e271_58, e271_61, e271_63, e271_66, e271_67, e271_68, e271_71, e271_74, e271_77, e271_80, e271_81, m271, ↓reduceIte, qg_0, qg_1, qg_2, qg_3, qg_4, qg_5, qg_6, qg_7, qg_8, qg_9, qg_10, qg_11, qg_12, qg_13, not_true_eq_false, not_false_eq_true, Nat.reduceBEq, Bool.false_eq_true, ex1, ex3, ex4, exF, qfit_i, qfit_l, qfit_r, qfit_n, qfit_b0, qfit_b1, qcat_i, qcat_r, qcat_n, qcat_l, qroom_0, qroom_c, List.map_cons, List.map_nil, List.sum_cons, List.sum_nil, Nat.reduceAdd, Nat.reduceMul, Nat.reduceLT, Nat.reduceLeDiff, Nat.reduceEqDiff, Nat.reduceSub, decide_true, true_and, and_true, and_self, if_true, if_false, Option.toList_some, Option.toList_none, List.cons_append, List.nil_append, qsL, qlong, List.length_cons, List.length_nil, iN_L, vM1, vM2, exI, iN_add, iN_mul, iN_le, iN_lt, iN_eq, Nat.le_refl, qfN0, qfN1, gM_2, rM_57, c57]
      exact Iff.rfl) (L := [some (.ref 55), some (.int (iN i)), some (.int (iN (farN adj n 0))), some (.int (iN 0)), none, none]) (h := h1) ⟨none, none, rfl, rfl⟩
    have r0 : qMC (d + 4) 271 [.ref 55, .int (iN i)] h R ↔ qEv (d + 3) 0 qk_271 21 [some (.ref 55), some (.int (iN i)), some (.int (iN (farN adj n 0))), some (.int (iN 0)), none, none] [] h2 R := by
      simp (disch := first | assumption | omega) only [e271_0, e271_1, e271_2, e271_5, e271_8, e271_11, e271_12, e271_13, e271_14, e271_17, e271_18, e271_19, e271_20, e271_22, e271_23, e271_26, e271_27, e271_28, e271_31, e271_32, e271_34, e271_36, e271_37, e271_40, e271_41, e271_42, e271_45, e271_46, e271_47, e271_48, e271_50, e271_53, e271_55, e271_57, e271_58, e271_61, e271_63, e271_66, e271_67, e271_68, e271_71, e271_74, e271_77, e271_80, e271_81, m271, ↓reduceIte, qg_0, qg_1, qg_2, qg_3, qg_4, qg_5, qg_6, qg_7, qg_8, qg_9, qg_10, qg_11, qg_12, qg_13, not_true_eq_false, not_false_eq_true, Nat.reduceBEq, Bool.false_eq_true, ex1, ex3, ex4, exF, qfit_i, qfit_l, qfit_r, qfit_n, qfit_b0, qfit_b1, qcat_i, qcat_r, qcat_n, qcat_l, qroom_0, qroom_c, List.map_cons, List.map_nil, List.sum_cons, List.sum_nil, Nat.reduceAdd, Nat.reduceMul, Nat.reduceLT, Nat.reduceLeDiff, Nat.reduceEqDiff, Nat.reduceSub, decide_true, true_and, and_true, and_self, if_true, if_false, Option.toList_some, Option.toList_none, List.cons_append, List.nil_append, qsL, qlong, List.length_cons, List.length_nil, iN_L, vM1, vM2, exI, iN_add, iN_mul, iN_le, iN_lt, iN_eq, Nat.le_refl, qfN0, qfN1, s_isBody1 (d := d + 1) s B hx, n1, r1]
      exact Iff.rfl
    rw [r0, r2 R, e271_21]
    simp (disch := first | assumption | omega) only [e271_0, e271_1, e271_2, e271_5, e271_8, e271_11, e271_12, e271_13, e271_14, e271_17, e271_18, e271_19, e271_20, e271_22, e271_23, e271_26, e271_27, e271_28, e271_31, e271_32, e271_34, e271_36, e271_37, e271_40, e271_41, e271_42, e271_45, e271_46, e271_47, e271_48, e271_50, e271_53, e271_55, e271_57, e271_58, e271_61, e271_63, e271_66, e271_67, e271_68, e271_71, e271_74, e271_77, e271_80, e271_81, m271, ↓reduceIte, qg_0, qg_1, qg_2, qg_3, qg_4, qg_5, qg_6, qg_7, qg_8, qg_9, qg_10, qg_11, qg_12, qg_13, not_true_eq_false, not_false_eq_true, Nat.reduceBEq, Bool.false_eq_true, ex1, ex3, ex4, exF, qfit_i, qfit_l, qfit_r, qfit_n, qfit_b0, qfit_b1, qcat_i, qcat_r, qcat_n, qcat_l, qroom_0, qroom_c, List.map_cons, List.map_nil, List.sum_cons, List.sum_nil, Nat.reduceAdd, Nat.reduceMul, Nat.reduceLT, Nat.reduceLeDiff, Nat.reduceEqDiff, Nat.reduceSub, decide_true, true_and, and_true, and_self, if_true, if_false, Option.toList_some, Option.toList_none, List.cons_append, List.nil_append, qsL, qlong, List.length_cons, List.length_nil, iN_L, vM1, vM2, exI, iN_add, iN_mul, iN_le, iN_lt, iN_eq, Nat.le_refl, qfN0, qfN1, gM_2, rM_57, c57]
  · refine ⟨-1001, h, fun R => ?_, Ch.refl s, Or.inl ⟨hx, rfl⟩⟩
    simp (disch := first | assumption | omega) only [e271_0, e271_1, e271_2, e271_5, e271_8, e271_11, e271_12, e271_13, e271_14, e271_17, e271_18, e271_19, e271_20, e271_22, e271_23, e271_26, e271_27, e271_28, e271_31, e271_32, e271_34, e271_36, e271_37, e271_40, e271_41, e271_42, e271_45, e271_46, e271_47, e271_48, e271_50, e271_53, e271_55, e271_57, e271_58, e271_61, e271_63, e271_66, e271_67, e271_68, e271_71, e271_74, e271_77, e271_80, e271_81, m271, ↓reduceIte, qg_0, qg_1, qg_2, qg_3, qg_4, qg_5, qg_6, qg_7, qg_8, qg_9, qg_10, qg_11, qg_12, qg_13, not_true_eq_false, not_false_eq_true, Nat.reduceBEq, Bool.false_eq_true, ex1, ex3, ex4, exF, qfit_i, qfit_l, qfit_r, qfit_n, qfit_b0, qfit_b1, qcat_i, qcat_r, qcat_n, qcat_l, qroom_0, qroom_c, List.map_cons, List.map_nil, List.sum_cons, List.sum_nil, Nat.reduceAdd, Nat.reduceMul, Nat.reduceLT, Nat.reduceLeDiff, Nat.reduceEqDiff, Nat.reduceSub, decide_true, true_and, and_true, and_self, if_true, if_false, Option.toList_some, Option.toList_none, List.cons_append, List.nil_append, qsL, qlong, List.length_cons, List.length_nil, iN_L, vM1, vM2, exI, iN_add, iN_mul, iN_le, iN_lt, iN_eq, Nat.le_refl, qfN0, qfN1, s_isBody0 (d := d + 1) s B hx]
end STEPS

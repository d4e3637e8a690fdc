/-! ===== THE REFERENCE: height, up ===== -/
section UP
variable {d : Nat} {h : qH} {bs : List bdy} {t : pt4}
/-- the height of a corner -/
def htZ (t : pt4) (cs : List pt4) (D c : Nat) : Int := sumZ (fun k => co t k * lP cs c k) D
theorem htZ_b {i c : Nat} (B : BsM h bs) (hi' : i < bs.length) (tv : TlV h t) (hc : c < (cnr bs i).length) : ∀ k, k ≤ 4 → -400000 ≤ sumZ (fun k => co t k * lP (cnr bs i) c k) k ∧ sumZ (fun k => co t k * lP (cnr bs i) c k) k ≤ 400000 := by
  intro k hk
  have cv := B.corn hi'
  have h1 : -((k : Nat) * (99 * 999 : Int)) ≤ sumZ (fun k => co t k * lP (cnr bs i) c k) k ∧ sumZ (fun k => co t k * lP (cnr bs i) c k) k ≤ (k : Nat) * (99 * 999 : Int) := sumZ_b fun j hj => mul_b (tv j (by omega)).2 (cv.2.2 c hc j (by omega)).2
  omega
set_option maxRecDepth 100000 in
set_option maxHeartbeats 16000000 in
theorem s_height {i c : Nat} (s : ShM h) (B : BsM h bs) (hi' : i < bs.length) (tv : TlV h t) (hc : c < (cnr bs i).length) (R : qRes) : qMC (d + 2) 273 [.ref 55, .int (iN i), .int (iN c)] h R ↔ R = (some (.int (iZ (htZ t (cnr bs i) (dmn bs i) c))), h) := by
  have b24 := B.1
  obtain ⟨di, d2, d4⟩ := B.dim hi'
  have cv := B.corn hi'
  have cl := cv.2.1
  have r0 : qMC (d + 2) 273 [.ref 55, .int (iN i), .int (iN c)] h R ↔ qEv (d + 1) 0 qk_273 5 [some (.ref 55), some (.int (iN i)), some (.int (iN c)), some (.int (iZ (sumZ (fun k => co t k * lP (cnr bs i) c k) 0))), some (.int (iN 0))] [] h R := by
    simp (disch := first | assumption | omega) only [e273_0, e273_1, e273_2, e273_3, e273_7, e273_8, e273_11, e273_12, e273_13, e273_16, e273_17, e273_18, e273_21, e273_23, e273_24, e273_25, e273_26, e273_27, e273_29, e273_32, e273_33, e273_34, e273_35, e273_38, e273_41, e273_42, m273, ↓reduceIte, qg_0, qg_1, qg_2, qg_3, qg_4, qg_5, qg_6, qg_7, qg_8, qg_9, qg_10, qg_11, qg_12, qg_13, not_true_eq_false, not_false_eq_true, Nat.reduceBEq, Bool.false_eq_true, ex1, ex3, ex4, exF, qfit_i, qfit_l, qfit_r, qfit_n, qfit_b0, qfit_b1, qcat_i, qcat_r, qcat_n, qcat_l, qroom_0, qroom_c, List.map_cons, List.map_nil, List.sum_cons, List.sum_nil, Nat.reduceAdd, Nat.reduceMul, Nat.reduceLT, Nat.reduceLeDiff, Nat.reduceEqDiff, Nat.reduceSub, decide_true, true_and, and_true, and_self, if_true, if_false, Option.toList_some, Option.toList_none, List.cons_append, List.nil_append, qsL, qlong, List.length_cons, List.length_nil, iN_L, vM1, vM2, exI, iN_add, iN_mul, iN_le, iN_lt, iN_eq, Nat.le_refl, qfN0, qfN1]
    exact Iff.rfl
  rw [r0]
  refine Iff.trans (loop_up (n := dmn bs i) (L := fun k => [some (.ref 55), some (.int (iN i)), some (.int (iN c)), some (.int (iZ (sumZ (fun k => co t k * lP (cnr bs i) c k) k))), some (.int (iN k))]) (H := fun _ => h) ?_) ?_
  · intro k hk
    try dsimp only
    have tk := (tv k (by omega)).1
    have xk := cv.at hc (show k < 4 by omega)
    rw [e273_5, sumZ]
    simp (disch := first | assumption | omega) only [e273_0, e273_1, e273_2, e273_3, e273_7, e273_8, e273_11, e273_12, e273_13, e273_16, e273_17, e273_18, e273_21, e273_23, e273_24, e273_25, e273_26, e273_27, e273_29, e273_32, e273_33, e273_34, e273_35, e273_38, e273_42, m273, ↓reduceIte, qg_0, qg_1, qg_2, qg_3, qg_4, qg_5, qg_6, qg_7, qg_8, qg_9, qg_10, qg_11, qg_12, qg_13, not_true_eq_false, not_false_eq_true, Nat.reduceBEq, Bool.false_eq_true, ex1, ex3, ex4, exF, qfit_i, qfit_l, qfit_r, qfit_n, qfit_b0, qfit_b1, qcat_i, qcat_r, qcat_n, qcat_l, qroom_0, qroom_c, List.map_cons, List.map_nil, List.sum_cons, List.sum_nil, Nat.reduceAdd, Nat.reduceMul, Nat.reduceLT, Nat.reduceLeDiff, Nat.reduceEqDiff, Nat.reduceSub, decide_true, true_and, and_true, and_self, if_true, if_false, Option.toList_some, Option.toList_none, List.cons_append, List.nil_append, qsL, qlong, List.length_cons, List.length_nil, iN_L, vM1, vM2, exI, iN_add, iN_mul, iN_le, iN_lt, iN_eq, Nat.le_refl, qfN0, qfN1, gM_1, rM_56, di, show ¬ dmn bs i ≤ k by omega, gM_38, rM_83, tk, s_x s, xk, iZ_mul, iZ_add]
  · try dsimp only
    rw [e273_5]
    simp (disch := first | assumption | omega) only [e273_0, e273_1, e273_2, e273_3, e273_7, e273_8, e273_11, e273_12, e273_13, e273_16, e273_17, e273_18, e273_21, e273_23, e273_24, e273_25, e273_26, e273_27, e273_29, e273_32, e273_33, e273_34, e273_35, e273_38, e273_41, e273_42, m273, ↓reduceIte, qg_0, qg_1, qg_2, qg_3, qg_4, qg_5, qg_6, qg_7, qg_8, qg_9, qg_10, qg_11, qg_12, qg_13, not_true_eq_false, not_false_eq_true, Nat.reduceBEq, Bool.false_eq_true, ex1, ex3, ex4, exF, qfit_i, qfit_l, qfit_r, qfit_n, qfit_b0, qfit_b1, qcat_i, qcat_r, qcat_n, qcat_l, qroom_0, qroom_c, List.map_cons, List.map_nil, List.sum_cons, List.sum_nil, Nat.reduceAdd, Nat.reduceMul, Nat.reduceLT, Nat.reduceLeDiff, Nat.reduceEqDiff, Nat.reduceSub, decide_true, true_and, and_true, and_self, if_true, if_false, Option.toList_some, Option.toList_none, List.cons_append, List.nil_append, qsL, qlong, List.length_cons, List.length_nil, iN_L, vM1, vM2, exI, iN_add, iN_mul, iN_le, iN_lt, iN_eq, Nat.le_refl, qfN0, qfN1, gM_1, rM_56, di]
    exact Iff.rfl
/-- the best beside a corner among the first k -/
def bstN (adj : Nat → Nat → Bool) (ht : Nat → Int) (x : Nat) : Nat → Nat
  | 0 => x
  | k + 1 => if adj x k = true ∧ ht (bstN adj ht x k) < ht k then k else bstN adj ht x k
theorem bstN_lt {adj : Nat → Nat → Bool} {ht : Nat → Int} {x n : Nat} (hx : x < n) : ∀ k, k ≤ n → bstN adj ht x k < n
  | 0, _ => hx
  | k + 1, hk => by
    rw [bstN]
    split
    · omega
    · exact bstN_lt hx k (by omega)
theorem bstN_up {adj : Nat → Nat → Bool} {ht : Nat → Int} {x : Nat} : ∀ k, bstN adj ht x k = x ∨ ht x < ht (bstN adj ht x k)
  | 0 => Or.inl rfl
  | k + 1 => by
    have ih := bstN_up (adj := adj) (ht := ht) (x := x) k
    rw [bstN]
    split
    · rename_i hc
      right
      rcases ih with e | e
      · rw [e] at hc; exact hc.2
      · exact Int.lt_trans e hc.2
    · exact ih
/-- up and up -/
def upN (adj : Nat → Nat → Bool) (ht : Nat → Int) (n c : Nat) : Nat → Nat
  | 0 => c
  | t + 1 => bstN adj ht (upN adj ht n c t) n
theorem upN_lt {adj : Nat → Nat → Bool} {ht : Nat → Int} {n c : Nat} (hc : c < n) : ∀ t, upN adj ht n c t < n
  | 0 => hc
  | t + 1 => bstN_lt (upN_lt hc t) n (Nat.le_refl _)
theorem upN_end {adj : Nat → Nat → Bool} {ht : Nat → Int} {n c : Nat} (hc : c < n) : ∃ t, t ≤ n ∧ upN adj ht n c (t + 1) = upN adj ht n c t := by
  refine Classical.byContradiction fun hno => ?_
  have key : ∀ t, t ≤ n + 1 → t ≤ cntN (fun x => decide (ht x < ht (upN adj ht n c t))) n := by
    intro t
    induction t with
    | zero => exact fun _ => Nat.zero_le _
    | succ t ih =>
      intro ht'
      have h1 := ih (by omega)
      have hne : upN adj ht n c (t + 1) ≠ upN adj ht n c t := fun e => hno ⟨t, by omega, e⟩
      have hlt : ht (upN adj ht n c t) < ht (upN adj ht n c (t + 1)) := (bstN_up (adj := adj) (ht := ht) (x := upN adj ht n c t) n).resolve_left hne
      have h2 := cntN_ltq (n := n) (p := fun x => decide (ht x < ht (upN adj ht n c t))) (q := fun x => decide (ht x < ht (upN adj ht n c (t + 1)))) (fun x _ hx => decide_eq_true (Int.lt_trans (of_decide_eq_true hx) hlt)) ⟨upN adj ht n c t, upN_lt hc t, decide_eq_true hlt, fun z => absurd (of_decide_eq_true z) (Int.lt_irrefl _)⟩
      omega
  have h3 := key (n + 1) (Nat.le_refl _)
  have h4 := cntN_le (p := fun x => decide (ht x < ht (upN adj ht n c (n + 1)))) (n := n)
  omega
/-- where it ends, by how many -/
def upT (adj : Nat → Nat → Bool) (ht : Nat → Int) (n c t : Nat) : Prop := (t ≤ n ∧ upN adj ht n c (t + 1) = upN adj ht n c t) ∧ ∀ k, k < t → ¬ upN adj ht n c (k + 1) = upN adj ht n c k
theorem upT_ex {adj : Nat → Nat → Bool} {ht : Nat → Int} {n c : Nat} (hc : c < n) : ∃ t, upT adj ht n c t := by
  obtain ⟨t, h1, h2, h3⟩ := least (upN_end (adj := adj) (ht := ht) hc)
  exact ⟨t, ⟨h1, h2⟩, h3⟩
theorem upT_one {adj : Nat → Nat → Bool} {ht : Nat → Int} {n c t t' : Nat} (h1 : upT adj ht n c t) (h2 : upT adj ht n c t') : t = t' := by
  rcases Nat.lt_trichotomy t t' with w | w | w
  · exact absurd h1.1.2 (h2.2 t w)
  · exact w
  · exact absurd h2.1.2 (h1.2 t' w)
noncomputable def upR (bs : List bdy) (tl : pt4) (x y z v : Int32) : Prop := (¬ isC bs x y ∧ v = -1001) ∨ (isC bs x y ∧ (¬ ∃ k, k ≤ 2 ∧ z = iN k) ∧ v = -1002) ∨ ∃ i c k t, (i < bs.length ∧ x = iN i) ∧ (c < (cnr bs i).length ∧ y = iN c) ∧ (k ≤ 2 ∧ z = iN k) ∧ upT (adjB (cel bs i 1)) (htZ tl (cnr bs i) (dmn bs i)) (cnr bs i).length c t ∧ v = if k = 0 then iN (upN (adjB (cel bs i 1)) (htZ tl (cnr bs i) (dmn bs i)) (cnr bs i).length c t) else if k = 1 then iN t else iZ (htZ tl (cnr bs i) (dmn bs i) (upN (adjB (cel bs i 1)) (htZ tl (cnr bs i) (dmn bs i)) (cnr bs i).length c t))
set_option maxRecDepth 100000 in
set_option maxHeartbeats 16000000 in
/-- one look around -/
theorem up_in {i n x y : Nat} {adj : Nat → Nat → Bool} {ht : Nat → Int} {x7 x8 : Option Value} {u : Int32} (s : ShM h) (hi' : i < 24) (hn : hi h 57 i = iN n) (h16 : n ≤ 16) (v : BeV h n adj) (hx : x < n) (hh : ∀ c, c < n → ∀ R, qMC (d + 3) 273 [.ref 55, .int (iN i), .int (iN c)] h R ↔ R = (some (.int (iZ (ht c))), h)) (hb : ∀ c, c < n → iB (ht c)) {c w : Int32} (R : qRes) : qEv (d + 3) 0 qk_274 48 [some (.ref 55), some (.int (iN i)), some (.int c), some (.int w), some (.int (iN x)), some (.int (iN y)), some (.int u), x7, x8] [] h R ↔ qEv (d + 3) 0 qk_274 114 [some (.ref 55), some (.int (iN i)), some (.int c), some (.int w), some (.int (iN x)), some (.int (iN y)), some (.int u), some (.int (iN (bstN adj ht x n))), some (.int (iN n))] [] h R := by
  have m16 : ∀ f, mask f n < 2147483648 := fun f => Nat.lt_trans (mask_16 h16) (by decide)
  have bitv : ∀ (f : Nat → Bool) k, k < n → (mask f n).testBit k = f k := fun f k hk => by rw [mask_bit, decide_eq_true hk, Bool.true_and]
  have r0 : qEv (d + 3) 0 qk_274 48 [some (.ref 55), some (.int (iN i)), some (.int c), some (.int w), some (.int (iN x)), some (.int (iN y)), some (.int u), x7, x8] [] h R ↔ qEv (d + 3) 0 qk_274 55 [some (.ref 55), some (.int (iN i)), some (.int c), some (.int w), some (.int (iN x)), some (.int (iN y)), some (.int u), some (.int (iN (bstN adj ht x 0))), some (.int (iN 0))] [] h R := by
    simp (disch := first | assumption | omega) only [e274_0, e274_1, e274_2, e274_3, e274_6, e274_9, e274_12, e274_13, e274_14, e274_15, e274_16, e274_19, e274_22, e274_25, e274_28, e274_29, e274_30, e274_31, e274_34, e274_35, e274_37, e274_38, e274_40, e274_41, e274_45, e274_48, e274_50, e274_52, e274_53, e274_57, e274_58, e274_61, e274_62, e274_63, e274_66, e274_67, e274_70, e274_72, e274_73, e274_75, e274_76, e274_77, e274_78, e274_79, e274_82, e274_83, e274_84, e274_86, e274_89, e274_90, e274_91, e274_93, e274_96, e274_99, e274_101, e274_104, e274_106, e274_108, e274_111, e274_114, e274_116, e274_118, e274_121, e274_122, e274_125, e274_126, e274_128, e274_130, e274_132, e274_135, e274_136, e274_139, e274_140, e274_141, e274_143, e274_145, e274_147, e274_150, e274_151, e274_154, e274_156, e274_159, e274_160, e274_161, e274_164, e274_166, e274_169, e274_170, e274_171, e274_173, e274_176, m274, ↓reduceIte, qg_0, qg_1, qg_2, qg_3, qg_4, qg_5, qg_6, qg_7, qg_8, qg_9, qg_10, qg_11, qg_12, qg_13, not_true_eq_false, not_false_eq_true, Nat.reduceBEq, Bool.false_eq_true, ex1, ex3, ex4, exF, qfit_i, qfit_l, qfit_r, qfit_n, qfit_b0, qfit_b1, qcat_i, qcat_r, qcat_n, qcat_l, qroom_0, qroom_c, List.map_cons, List.map_nil, List.sum_cons, List.sum_nil, Nat.reduceAdd, Nat.reduceMul, Nat.reduceLT, Nat.reduceLeDiff, Nat.reduceEqDiff, Nat.reduceSub, decide_true, true_and, and_true, and_self, if_true, if_false, Option.toList_some, Option.toList_none, List.cons_append, List.nil_append, qsL, qlong, List.length_cons, List.length_nil, iN_L, vM1, vM2, exI, iN_add, iN_mul, iN_le, iN_lt, iN_eq, Nat.le_refl, qfN0, qfN1]
    exact Iff.rfl
  rw [r0]
  refine Iff.trans (loop_up (n := n) (L := fun k => [some (.ref 55), some (.int (iN i)), some (.int c), some (.int w), some (.int (iN x)), some (.int (iN y)), some (.int u), some (.int (iN (bstN adj ht x k))), some (.int (iN k))]) (H := fun _ => h) ?_) ?_
  · intro k hk
    try dsimp only
    have bk := bstN_lt (adj := adj) (ht := ht) hx k (by omega)
    have hk' := hh k hk
    have hbk := hh _ bk
    have vx := v x hx
    have b1 := hb k hk
    have b2 := hb _ bk
    rw [e274_55, bstN]
    cases q : adj x k with
    | true =>
      have bt := bit1 (m := mask (adj x) n) (p := k) (m16 _) (by omega) (by rw [bitv _ k hk]; exact q)
      by_cases g : ht (bstN adj ht x k) < ht k
      · have g2 : ¬ iZ (ht k) ≤ iZ (ht (bstN adj ht x k)) := by rw [iZ_le b1 b2]; omega
        rw [if_pos ⟨rfl, g⟩]
        simp (disch := first | assumption | omega) only [e274_0, e274_1, e274_2, e274_3, e274_6, e274_9, e274_12, e274_13, e274_14, e274_15, e274_16, e274_19, e274_22, e274_25, e274_28, e274_29, e274_30, e274_31, e274_34, e274_35, e274_37, e274_38, e274_40, e274_41, e274_43, e274_45, e274_48, e274_50, e274_52, e274_53, e274_57, e274_58, e274_61, e274_62, e274_63, e274_66, e274_67, e274_70, e274_72, e274_73, e274_75, e274_76, e274_77, e274_78, e274_79, e274_82, e274_83, e274_84, e274_86, e274_89, e274_90, e274_91, e274_93, e274_96, e274_99, e274_101, e274_104, e274_106, e274_108, e274_111, e274_116, e274_118, e274_121, e274_122, e274_125, e274_126, e274_128, e274_130, e274_132, e274_135, e274_136, e274_139, e274_140, e274_141, e274_143, e274_145, e274_147, e274_150, e274_151, e274_154, e274_156, e274_159, e274_160, e274_161, e274_164, e274_166, e274_169, e274_170, e274_171, e274_173, e274_176, m274, ↓reduceIte, qg_0, qg_1, qg_2, qg_3, qg_4, qg_5, qg_6, qg_7, qg_8, qg_9, qg_10, qg_11, qg_12, qg_13, not_true_eq_false, not_false_eq_true, Nat.reduceBEq, Bool.false_eq_true, ex1, ex3, ex4, exF, qfit_i, qfit_l, qfit_r, qfit_n, qfit_b0, qfit_b1, qcat_i, qcat_r, qcat_n, qcat_l, qroom_0, qroom_c, List.map_cons, List.map_nil, List.sum_cons, List.sum_nil, Nat.reduceAdd, Nat.reduceMul, Nat.reduceLT, Nat.reduceLeDiff, Nat.reduceEqDiff, Nat.reduceSub, decide_true, true_and, and_true, and_self, if_true, if_false, Option.toList_some, Option.toList_none, List.cons_append, List.nil_append, qsL, qlong, List.length_cons, List.length_nil, iN_L, vM1, vM2, exI, iN_add, iN_mul, iN_le, iN_lt, iN_eq, Nat.le_refl, qfN0, qfN1, gM_2, rM_57, hn, show ¬ n ≤ k by omega, gM_37, rM_82, vx, bt, hk', hbk, g2]
      · have g2 : iZ (ht k) ≤ iZ (ht (bstN adj ht x k)) := by rw [iZ_le b1 b2]; omega
        rw [if_neg (fun z => g z.2)]
        simp (disch := first | assumption | omega) only [e274_0, e274_1, e274_2, e274_3, e274_6, e274_9, e274_12, e274_13, e274_14, e274_15, e274_16, e274_19, e274_22, e274_25, e274_28, e274_29, e274_30, e274_31, e274_34, e274_35, e274_37, e274_38, e274_40, e274_41, e274_43, e274_45, e274_48, e274_50, e274_52, e274_53, e274_57, e274_58, e274_61, e274_62, e274_63, e274_66, e274_67, e274_70, e274_72, e274_73, e274_75, e274_76, e274_77, e274_78, e274_79, e274_82, e274_83, e274_84, e274_86, e274_89, e274_90, e274_91, e274_93, e274_96, e274_99, e274_101, e274_104, e274_106, e274_108, e274_111, e274_116, e274_118, e274_121, e274_122, e274_125, e274_126, e274_128, e274_130, e274_132, e274_135, e274_136, e274_139, e274_140, e274_141, e274_143, e274_145, e274_147, e274_150, e274_151, e274_154, e274_156, e274_159, e274_160, e274_161, e274_164, e274_166, e274_169, e274_170, e274_171, e274_173, e274_176, m274, ↓reduceIte, qg_0, qg_1, qg_2, qg_3, qg_4, qg_5, qg_6, qg_7, qg_8, qg_9, qg_10, qg_11, qg_12, qg_13, not_true_eq_false, not_false_eq_true, Nat.reduceBEq, Bool.false_eq_true, ex1, ex3, ex4, exF, qfit_i, qfit_l, qfit_r, qfit_n, qfit_b0, qfit_b1, qcat_i, qcat_r, qcat_n, qcat_l, qroom_0, qroom_c, List.map_cons, List.map_nil, List.sum_cons, List.sum_nil, Nat.reduceAdd, Nat.reduceMul, Nat.reduceLT, Nat.reduceLeDiff, Nat.reduceEqDiff, Nat.reduceSub, decide_true, true_and, and_true, and_self, if_true, if_false, Option.toList_some, Option.toList_none, List.cons_append, List.nil_append, qsL, qlong, List.length_cons, List.length_nil, iN_L, vM1, vM2, exI, iN_add, iN_mul, iN_le, iN_lt, iN_eq, Nat.le_refl, qfN0, qfN1, gM_2, rM_57, hn, show ¬ n ≤ k by omega, gM_37, rM_82, vx, bt, hk', hbk, g2]
    | false =>
      have bt := bit0 (m := mask (adj x) n) (p := k) (m16 _) (by omega) (by rw [bitv _ k hk]; exact q)
      rw [if_neg (fun z => by cases z.1)]
      simp (disch := first | assumption | omega) only [e274_0, e274_1, e274_2, e274_3, e274_6, e274_9, e274_12, e274_13, e274_14, e274_15, e274_16, e274_19, e274_22, e274_25, e274_28, e274_29, e274_30, e274_31, e274_34, e274_35, e274_37, e274_38, e274_40, e274_41, e274_43, e274_45, e274_48, e274_50, e274_52, e274_53, e274_57, e274_58, e274_61, e274_62, e274_63, e274_66, e274_67, e274_70, e274_72, e274_73, e274_75, e274_76, e274_77, e274_78, e274_79, e274_82, e274_83, e274_84, e274_86, e274_89, e274_90, e274_91, e274_93, e274_96, e274_99, e274_101, e274_104, e274_106, e274_108, e274_111, e274_116, e274_118, e274_121, e274_122, e274_125, e274_126, e274_128, e274_130, e274_132, e274_135, e274_136, e274_139, e274_140, e274_141, e274_143, e274_145, e274_147, e274_150, e274_151, e274_154, e274_156, e274_159, e274_160, e274_161, e274_164, e274_166, e274_169, e274_170, e274_171, e274_173, e274_176, m274, ↓reduceIte, qg_0, qg_1, qg_2, qg_3, qg_4, qg_5, qg_6, qg_7, qg_8, qg_9, qg_10, qg_11, qg_12, qg_13, not_true_eq_false, not_false_eq_true, Nat.reduceBEq, Bool.false_eq_true, ex1, ex3, ex4, exF, qfit_i, qfit_l, qfit_r, qfit_n, qfit_b0, qfit_b1, qcat_i, qcat_r, qcat_n, qcat_l, qroom_0, qroom_c, List.map_cons, List.map_nil, List.sum_cons, List.sum_nil, Nat.reduceAdd, Nat.reduceMul, Nat.reduceLT, Nat.reduceLeDiff, Nat.reduceEqDiff, Nat.reduceSub, decide_true, true_and, and_true, and_self, if_true, if_false, Option.toList_some, Option.toList_none, List.cons_append, List.nil_append, qsL, qlong, List.length_cons, List.length_nil, iN_L, vM1, vM2, exI, iN_add, iN_mul, iN_le, iN_lt, iN_eq, Nat.le_refl, qfN0, qfN1, gM_2, rM_57, hn, show ¬ n ≤ k by omega, gM_37, rM_82, vx, bt, show ¬ iN 0 = iN 1 by decide]
  · try dsimp only
    rw [e274_55]
    simp (disch := first | assumption | omega) only [e274_0, e274_1, e274_2, e274_3, e274_6, e274_9, e274_12, e274_13, e274_14, e274_15, e274_16, e274_19, e274_22, e274_25, e274_28, e274_29, e274_30, e274_31, e274_34, e274_35, e274_37, e274_38, e274_40, e274_41, e274_43, e274_45, e274_48, e274_50, e274_52, e274_53, e274_57, e274_58, e274_61, e274_62, e274_63, e274_66, e274_67, e274_70, e274_72, e274_73, e274_75, e274_76, e274_77, e274_78, e274_79, e274_82, e274_83, e274_84, e274_86, e274_89, e274_90, e274_91, e274_93, e274_96, e274_99, e274_101, e274_104, e274_106, e274_108, e274_111, e274_116, e274_118, e274_121, e274_122, e274_125, e274_126, e274_128, e274_130, e274_132, e274_135, e274_136, e274_139, e274_140, e274_141, e274_143, e274_145, e274_147, e274_150, e274_151, e274_154, e274_156, e274_159, e274_160, e274_161, e274_164, e274_166, e274_169, e274_170, e274_171, e274_173, e274_176, m274, ↓reduceIte, qg_0, qg_1, qg_2, qg_3, qg_4, qg_5, qg_6, qg_7, qg_8, qg_9, qg_10, qg_11, qg_12, qg_13, not_true_eq_false, not_false_eq_true, Nat.reduceBEq, Bool.false_eq_true, ex1, ex3, ex4, exF, qfit_i, qfit_l, qfit_r, qfit_n, qfit_b0, qfit_b1, qcat_i, qcat_r, qcat_n, qcat_l, qroom_0, qroom_c, List.map_cons, List.map_nil, List.sum_cons, List.sum_nil, Nat.reduceAdd, Nat.reduceMul, Nat.reduceLT, Nat.reduceLeDiff, Nat.reduceEqDiff, Nat.reduceSub, decide_true, true_and, and_true, and_self, if_true, if_false, Option.toList_some, Option.toList_none, List.cons_append, List.nil_append, qsL, qlong, List.length_cons, List.length_nil, iN_L, vM1, vM2, exI, iN_add, iN_mul, iN_le, iN_lt, iN_eq, Nat.le_refl, qfN0, qfN1, gM_2, rM_57, hn]
theorem in2 {z : Int32} : ((0 : Int64) ≤ z.toInt64 ∧ z.toInt64 ≤ 2) ↔ ∃ k, k ≤ 2 ∧ z = iN k := by
  have := in_rng (x := z) (a := 0) (b := 2) (by omega)
  rw [show (0 : Int64) = (iN 0).toInt64 from rfl, show (2 : Int64) = (iN 2).toInt64 from rfl, this]
  exact ⟨fun z => z.elim (fun ⟨k, h1, h2⟩ => ⟨k, h1.2, h2⟩) (fun z => by omega), fun ⟨k, h1, h2⟩ => Or.inl ⟨k, ⟨Nat.zero_le _, h1⟩, h2⟩⟩
set_option maxRecDepth 100000 in
set_option maxHeartbeats 16000000 in
theorem s_up (s : ShM h) (B : BsM h bs) (tv : TlV h t) (x y z : Int32) : ∃ v h', (∀ R, qMC (d + 4) 274 [.ref 55, .int x, .int y, .int z] h R ↔ R = (some (.int v), h')) ∧ Ch [82] [] h h' ∧ upR bs t x y z v := by
  have n1 : ¬ (1 : Int32) = iN 0 := by decide
  obtain ⟨y1, y0⟩ := s_isCornerOf (d := d) s B x y
  by_cases hy : isC bs x y
  · by_cases hz : ∃ k, k ≤ 2 ∧ z = iN k
    · obtain ⟨i, c, ⟨hi', rfl⟩, hc, rfl⟩ := id hy
      obtain ⟨k, hk, rfl⟩ := id hz
      have b24 := B.1
      have cl := (B.corn hi').2.1
      obtain ⟨h1, r1, c1, v1⟩ := s_findBeside (d := d) s B hi'
      have s1 := c1.sh
      have B1 : BsM h1 bs := B.ch c1 (by decide) (by decide)
      have c57 := (B1.corn hi').1
      have tv1 : TlV h1 t := fun k hk => by rw [c1.hi (by decide) (by decide)]; exact tv k hk
      have d4 := (B.dim hi').2.2
      have hh : ∀ c, c < (cnr bs i).length → ∀ R, qMC (d + 3) 273 [.ref 55, .int (iN i), .int (iN c)] h1 R ↔ R = (some (.int (iZ (htZ t (cnr bs i) (dmn bs i) c))), h1) := fun c hc R => s_height (d := d + 1) s1 B1 hi' tv1 hc R
      have hb : ∀ c, c < (cnr bs i).length → iB (htZ t (cnr bs i) (dmn bs i) c) := fun c hc => by
        have := htZ_b B hi' tv hc (dmn bs i) d4
        unfold iB htZ; omega
      obtain ⟨T, hT⟩ := upT_ex (adj := adjB (cel bs i 1)) (ht := htZ t (cnr bs i) (dmn bs i)) hc
      refine ⟨_, h1, fun R => ?_, c1, Or.inr (Or.inr ⟨i, c, k, T, ⟨hi', rfl⟩, ⟨hc, rfl⟩, ⟨hk, rfl⟩, hT, rfl⟩)⟩
      obtain ⟨n, en⟩ : ∃ n, n = (cnr bs i).length := ⟨_, rfl⟩
      obtain ⟨adj, ea⟩ : ∃ adj, adj = adjB (cel bs i 1) := ⟨_, rfl⟩
      obtain ⟨ht, eh⟩ : ∃ ht, ht = htZ t (cnr bs i) (dmn bs i) := ⟨_, rfl⟩
      rw [← en, ← ea] at v1
      rw [← en, ← ea, ← eh] at hT
      rw [← eh] at hh hb
      rw [← en] at hh hb c57 cl hc
      rw [← en, ← ea, ← eh]
      have ul := upN_lt (adj := adj) (ht := ht) hc
      have one : ∀ t R (x7 x8 : Option Value), t ≤ n → (qEv (d + 3) 0 qk_274 43 [some (.ref 55), some (.int (iN i)), some (.int (iN c)), some (.int (iN k)), some (.int (iN (upN adj ht n c t))), some (.int (iN t)), some (.int (iN 1)), x7, x8] [] h1 R ↔ qEv (d + 3) 0 qk_274 114 [some (.ref 55), some (.int (iN i)), some (.int (iN c)), some (.int (iN k)), some (.int (iN (upN adj ht n c t))), some (.int (iN t)), some (.int (iN 1)), some (.int (iN (upN adj ht n c (t + 1)))), some (.int (iN n))] [] h1 R) := by
        intro t R x7 x8 ht'
        rw [e274_43]
        have := up_in (d := d) (y := t) (u := iN 1) (x7 := x7) (x8 := x8) (c := iN c) (w := iN k) s1 (by omega) c57 cl v1 (ul t) hh hb R
        simp (disch := first | assumption | omega) only [e274_0, e274_1, e274_2, e274_3, e274_6, e274_9, e274_12, e274_13, e274_14, e274_15, e274_16, e274_19, e274_22, e274_25, e274_28, e274_29, e274_30, e274_31, e274_34, e274_35, e274_37, e274_38, e274_40, e274_41, e274_45, e274_50, e274_52, e274_53, e274_57, e274_58, e274_61, e274_62, e274_63, e274_66, e274_67, e274_70, e274_72, e274_73, e274_75, e274_76, e274_77, e274_78, e274_79, e274_82, e274_83, e274_84, e274_86, e274_89, e274_90, e274_91, e274_93, e274_96, e274_99, e274_101, e274_104, e274_106, e274_108, e274_111, e274_116, e274_118, e274_121, e274_122, e274_125, e274_126, e274_128, e274_130, e274_132, e274_135, e274_136, e274_139, e274_140, e274_141, e274_143, e274_145, e274_147, e274_150, e274_151, e274_154, e274_156, e274_159, e274_160, e274_161, e274_164, e274_166, e274_169, e274_170, e274_171, e274_173, e274_176, m274, ↓reduceIte, qg_0, qg_1, qg_2, qg_3, qg_4, qg_5, qg_6, qg_7, qg_8, qg_9, qg_10, qg_11, qg_12, qg_13, not_true_eq_false, not_false_eq_true, Nat.reduceBEq, Bool.false_eq_true, ex1, ex3, ex4, exF, qfit_i, qfit_l, qfit_r, qfit_n, qfit_b0, qfit_b1, qcat_i, qcat_r, qcat_n, qcat_l, qroom_0, qroom_c, List.map_cons, List.map_nil, List.sum_cons, List.sum_nil, Nat.reduceAdd, Nat.reduceMul, Nat.reduceLT, Nat.reduceLeDiff, Nat.reduceEqDiff, Nat.reduceSub, decide_true, true_and, and_true, and_self, if_true, if_false, Option.toList_some, Option.toList_none, List.cons_append, List.nil_append, qsL, qlong, List.length_cons, List.length_nil, iN_L, vM1, vM2, exI, iN_add, iN_mul, iN_le, iN_lt, iN_eq, Nat.le_refl, qfN0, qfN1, iN10]
        exact this
      obtain ⟨L2, h2, ⟨x7, x8, rfl, rfl⟩, r2⟩ := loop_inv (d := d + 3) (rt := 0) (K := qk_274) (pc := 43) (P := fun t L h' => ∃ x7 x8, L = [some (.ref 55), some (.int (iN i)), some (.int (iN c)), some (.int (iN k)), some (.int (iN (upN adj ht n c t))), some (.int (iN t)), some (.int (iN 1)), x7, x8] ∧ h' = h1) (n := T) (fun t L h' ht' hP => by
        obtain ⟨x7, x8, rfl, rfl⟩ := hP
        have hne := hT.2 t ht'
        have u1 := ul t
        have u2 := ul (t + 1)
        have tn := hT.1.1
        refine ⟨[some (.ref 55), some (.int (iN i)), some (.int (iN c)), some (.int (iN k)), some (.int (iN (upN adj ht n c (t + 1)))), some (.int (iN (t + 1))), some (.int (iN 1)), some (.int (iN (upN adj ht n c (t + 1)))), some (.int (iN n))], h', ⟨_, _, rfl, rfl⟩, fun R => ?_⟩
        rw [one t R x7 x8 (by omega)]
        simp (disch := first | assumption | omega) only [e274_0, e274_1, e274_2, e274_3, e274_6, e274_9, e274_12, e274_13, e274_14, e274_15, e274_16, e274_19, e274_22, e274_25, e274_28, e274_29, e274_30, e274_31, e274_34, e274_35, e274_37, e274_38, e274_40, e274_41, e274_45, e274_48, e274_50, e274_52, e274_53, e274_55, e274_57, e274_58, e274_61, e274_62, e274_63, e274_66, e274_67, e274_70, e274_72, e274_73, e274_75, e274_76, e274_77, e274_78, e274_79, e274_82, e274_83, e274_84, e274_86, e274_89, e274_90, e274_91, e274_93, e274_96, e274_99, e274_101, e274_104, e274_106, e274_108, e274_111, e274_114, e274_116, e274_118, e274_121, e274_122, e274_125, e274_126, e274_128, e274_130, e274_132, e274_135, e274_136, e274_139, e274_140, e274_141, e274_143, e274_145, e274_147, e274_150, e274_151, e274_154, e274_156, e274_159, e274_160, e274_161, e274_164, e274_166, e274_169, e274_170, e274_171, e274_173, e274_176, m274, ↓reduceIte, qg_0, qg_1, qg_2, qg_3, qg_4, qg_5, qg_6, qg_7, qg_8, qg_9, qg_10, qg_11, qg_12, qg_13, not_true_eq_false, not_false_eq_true, Nat.reduceBEq, Bool.false_eq_true, ex1, ex3, ex4, exF, qfit_i, qfit_l, qfit_r, qfit_n, qfit_b0, qfit_b1, qcat_i, qcat_r, qcat_n, qcat_l, qroom_0, qroom_c, List.map_cons, List.map_nil, List.sum_cons, List.sum_nil, Nat.reduceAdd, Nat.reduceMul, Nat.reduceLT, Nat.reduceLeDiff, Nat.reduceEqDiff, Nat.reduceSub, decide_true, true_and, and_true, and_self, if_true, if_false, Option.toList_some, Option.toList_none, List.cons_append, List.nil_append, qsL, qlong, List.length_cons, List.length_nil, iN_L, vM1, vM2, exI, iN_add, iN_mul, iN_le, iN_lt, iN_eq, Nat.le_refl, qfN0, qfN1, hne, iN10]) (L := [some (.ref 55), some (.int (iN i)), some (.int (iN c)), some (.int (iN k)), some (.int (iN (upN adj ht n c 0))), some (.int (iN 0)), some (.int (iN 1)), none, none]) (h := h1) ⟨none, none, rfl, rfl⟩
      have y1' := y1 hy
      have inz : bI ((0 : Int64) ≤ (iN k).toInt64 ∧ (iN k).toInt64 ≤ 2) = 1 := if_pos (in2.mpr hz)
      have r0 : qMC (d + 4) 274 [.ref 55, .int (iN i), .int (iN c), .int (iN k)] h R ↔ qEv (d + 3) 0 qk_274 43 [some (.ref 55), some (.int (iN i)), some (.int (iN c)), some (.int (iN k)), some (.int (iN (upN adj ht n c 0))), some (.int (iN 0)), some (.int (iN 1)), none, none] [] h2 R := by
        simp (disch := first | assumption | omega) only [e274_0, e274_1, e274_2, e274_3, e274_6, e274_9, e274_12, e274_13, e274_14, e274_15, e274_16, e274_19, e274_22, e274_25, e274_28, e274_29, e274_30, e274_31, e274_34, e274_35, e274_37, e274_38, e274_40, e274_41, e274_45, e274_48, e274_50, e274_52, e274_53, e274_55, e274_57, e274_58, e274_61, e274_62, e274_63, e274_66, e274_67, e274_70, e274_72, e274_73, e274_75, e274_76, e274_77, e274_78, e274_79, e274_82, e274_83, e274_84, e274_86, e274_89, e274_90, e274_91, e274_93, e274_96, e274_99, e274_101, e274_104, e274_106, e274_108, e274_111, e274_114, e274_116, e274_118, e274_121, e274_122, e274_125, e274_126, e274_128, e274_130, e274_132, e274_135, e274_136, e274_139, e274_140, e274_141, e274_143, e274_145, e274_147, e274_150, e274_151, e274_154, e274_156, e274_159, e274_160, e274_161, e274_164, e274_166, e274_169, e274_170, e274_171, e274_173, e274_176, m274, ↓reduceIte, qg_0, qg_1, qg_2, qg_3, qg_4, qg_5, qg_6, qg_7, qg_8, qg_9, qg_10, qg_11, qg_12, qg_13, not_true_eq_false, not_false_eq_true, Nat.reduceBEq, Bool.false_eq_true, ex1, ex3, ex4, exF, qfit_i, qfit_l, qfit_r, qfit_n, qfit_b0, qfit_b1, qcat_i, qcat_r, qcat_n, qcat_l, qroom_0, qroom_c, List.map_cons, List.map_nil, List.sum_cons, List.sum_nil, Nat.reduceAdd, Nat.reduceMul, Nat.reduceLT, Nat.reduceLeDiff, Nat.reduceEqDiff, Nat.reduceSub, decide_true, true_and, and_true, and_self, if_true, if_false, Option.toList_some, Option.toList_none, List.cons_append, List.nil_append, qsL, qlong, List.length_cons, List.length_nil, iN_L, vM1, vM2, exI, iN_add, iN_mul, iN_le, iN_lt, iN_eq, Nat.le_refl, qfN0, qfN1, y1', n1, s_in, inz, r1]
        exact Iff.rfl
      have u1 := ul T
      have u2 := ul (T + 1)
      have tn := hT.1.1
      rw [r0, r2 R, one T R x7 x8 tn, hT.1.2]
      have fin : ∀ (x7 x8 : Option Value), (qEv (d + 3) 0 qk_274 43 [some (.ref 55), some (.int (iN i)), some (.int (iN c)), some (.int (iN k)), some (.int (iN (upN adj ht n c T))), some (.int (iN T)), some (.int (iN 0)), x7, x8] [] h2 R ↔ R = (some (.int (if k = 0 then iN (upN adj ht n c T) else if k = 1 then iN T else iZ (ht (upN adj ht n c T)))), h2)) := by
        intro x7 x8
        have hu := hh _ u1
        rw [e274_43]
        by_cases k0 : k = 0
        · rw [if_pos k0, k0]
          simp (disch := first | assumption | omega) only [e274_0, e274_1, e274_2, e274_3, e274_6, e274_9, e274_12, e274_13, e274_14, e274_15, e274_16, e274_19, e274_22, e274_25, e274_28, e274_29, e274_30, e274_31, e274_34, e274_35, e274_37, e274_38, e274_40, e274_41, e274_45, e274_48, e274_50, e274_52, e274_53, e274_55, e274_57, e274_58, e274_61, e274_62, e274_63, e274_66, e274_67, e274_70, e274_72, e274_73, e274_75, e274_76, e274_77, e274_78, e274_79, e274_82, e274_83, e274_84, e274_86, e274_89, e274_90, e274_91, e274_93, e274_96, e274_99, e274_101, e274_104, e274_106, e274_108, e274_111, e274_114, e274_116, e274_118, e274_121, e274_122, e274_125, e274_126, e274_128, e274_130, e274_132, e274_135, e274_136, e274_139, e274_140, e274_141, e274_143, e274_145, e274_147, e274_150, e274_151, e274_154, e274_156, e274_159, e274_160, e274_161, e274_164, e274_166, e274_169, e274_170, e274_171, e274_173, e274_176, m274, ↓reduceIte, qg_0, qg_1, qg_2, qg_3, qg_4, qg_5, qg_6, qg_7, qg_8, qg_9, qg_10, qg_11, qg_12, qg_13, not_true_eq_false, not_false_eq_true, Nat.reduceBEq, Bool.false_eq_true, ex1, ex3, ex4, exF, qfit_i, qfit_l, qfit_r, qfit_n, qfit_b0, qfit_b1, qcat_i, qcat_r, qcat_n, qcat_l, qroom_0, qroom_c, List.map_cons, List.map_nil, List.sum_cons, List.sum_nil, Nat.reduceAdd, Nat.reduceMul, Nat.reduceLT, Nat.reduceLeDiff, Nat.reduceEqDiff, Nat.reduceSub, decide_true, true_and, and_true, and_self, if_true, if_false, Option.toList_some, Option.toList_none, List.cons_append, List.nil_append, qsL, qlong, List.length_cons, List.length_nil, iN_L, vM1, vM2, exI, iN_add, iN_mul, iN_le, iN_lt, iN_eq, Nat.le_refl, qfN0, qfN1]
        · rw [if_neg k0]
          by_cases k1 : k = 1
          · rw [if_pos k1, k1]
            simp (disch := first | assumption | omega) only [e274_0, e274_1, e274_2, e274_3, e274_6, e274_9, e274_12, e274_13, e274_14, e274_15, e274_16, e274_19, e274_22, e274_25, e274_28, e274_29, e274_30, e274_31, e274_34, e274_35, e274_37, e274_38, e274_40, e274_41, e274_45, e274_48, e274_50, e274_52, e274_53, e274_55, e274_57, e274_58, e274_61, e274_62, e274_63, e274_66, e274_67, e274_70, e274_72, e274_73, e274_75, e274_76, e274_77, e274_78, e274_79, e274_82, e274_83, e274_84, e274_86, e274_89, e274_90, e274_91, e274_93, e274_96, e274_99, e274_101, e274_104, e274_106, e274_108, e274_111, e274_114, e274_116, e274_118, e274_121, e274_122, e274_125, e274_126, e274_128, e274_130, e274_132, e274_135, e274_136, e274_139, e274_140, e274_141, e274_143, e274_145, e274_147, e274_150, e274_151, e274_154, e274_156, e274_159, e274_160, e274_161, e274_164, e274_166, e274_169, e274_170, e274_171, e274_173, e274_176, m274, ↓reduceIte, qg_0, qg_1, qg_2, qg_3, qg_4, qg_5, qg_6, qg_7, qg_8, qg_9, qg_10, qg_11, qg_12, qg_13, not_true_eq_false, not_false_eq_true, Nat.reduceBEq, Bool.false_eq_true, ex1, ex3, ex4, exF, qfit_i, qfit_l, qfit_r, qfit_n, qfit_b0, qfit_b1, qcat_i, qcat_r, qcat_n, qcat_l, qroom_0, qroom_c, List.map_cons, List.map_nil, List.sum_cons, List.sum_nil, Nat.reduceAdd, Nat.reduceMul, Nat.reduceLT, Nat.reduceLeDiff, Nat.reduceEqDiff, Nat.reduceSub, decide_true, true_and, and_true, and_self, if_true, if_false, Option.toList_some, Option.toList_none, List.cons_append, List.nil_append, qsL, qlong, List.length_cons, List.length_nil, iN_L, vM1, vM2, exI, iN_add, iN_mul, iN_le, iN_lt, iN_eq, Nat.le_refl, qfN0, qfN1, iN10, show ¬ 1 = 0 by omega]
          · rw [if_neg k1]
            simp (disch := first | assumption | omega) only [e274_0, e274_1, e274_2, e274_3, e274_6, e274_9, e274_12, e274_13, e274_14, e274_15, e274_16, e274_19, e274_22, e274_25, e274_28, e274_29, e274_30, e274_31, e274_34, e274_35, e274_37, e274_38, e274_40, e274_41, e274_45, e274_48, e274_50, e274_52, e274_53, e274_55, e274_57, e274_58, e274_61, e274_62, e274_63, e274_66, e274_67, e274_70, e274_72, e274_73, e274_75, e274_76, e274_77, e274_78, e274_79, e274_82, e274_83, e274_84, e274_86, e274_89, e274_90, e274_91, e274_93, e274_96, e274_99, e274_101, e274_104, e274_106, e274_108, e274_111, e274_114, e274_116, e274_118, e274_121, e274_122, e274_125, e274_126, e274_128, e274_130, e274_132, e274_135, e274_136, e274_139, e274_140, e274_141, e274_143, e274_145, e274_147, e274_150, e274_151, e274_154, e274_156, e274_159, e274_160, e274_161, e274_164, e274_166, e274_169, e274_170, e274_171, e274_173, e274_176, m274, ↓reduceIte, qg_0, qg_1, qg_2, qg_3, qg_4, qg_5, qg_6, qg_7, qg_8, qg_9, qg_10, qg_11, qg_12, qg_13, not_true_eq_false, not_false_eq_true, Nat.reduceBEq, Bool.false_eq_true, ex1, ex3, ex4, exF, qfit_i, qfit_l, qfit_r, qfit_n, qfit_b0, qfit_b1, qcat_i, qcat_r, qcat_n, qcat_l, qroom_0, qroom_c, List.map_cons, List.map_nil, List.sum_cons, List.sum_nil, Nat.reduceAdd, Nat.reduceMul, Nat.reduceLT, Nat.reduceLeDiff, Nat.reduceEqDiff, Nat.reduceSub, decide_true, true_and, and_true, and_self, if_true, if_false, Option.toList_some, Option.toList_none, List.cons_append, List.nil_append, qsL, qlong, List.length_cons, List.length_nil, iN_L, vM1, vM2, exI, iN_add, iN_mul, iN_le, iN_lt, iN_eq, Nat.le_refl, qfN0, qfN1, k0, k1, hu]
      rw [← fin (some (.int (iN (upN adj ht n c T)))) (some (.int (iN n)))]
      simp (disch := first | assumption | omega) only [e274_0, e274_1, e274_2, e274_3, e274_6, e274_9, e274_12, e274_13, e274_14, e274_15, e274_16, e274_19, e274_22, e274_25, e274_28, e274_29, e274_30, e274_31, e274_34, e274_35, e274_37, e274_38, e274_40, e274_41, e274_45, e274_48, e274_50, e274_52, e274_53, e274_55, e274_57, e274_58, e274_61, e274_62, e274_63, e274_66, e274_67, e274_70, e274_72, e274_73, e274_75, e274_76, e274_77, e274_78, e274_79, e274_82, e274_83, e274_84, e274_86, e274_89, e274_90, e274_91, e274_93, e274_96, e274_99, e274_101, e274_104, e274_106, e274_108, e274_111, e274_114, e274_116, e274_118, e274_121, e274_122, e274_125, e274_126, e274_128, e274_130, e274_132, e274_135, e274_136, e274_139, e274_140, e274_141, e274_143, e274_145, e274_147, e274_150, e274_151, e274_154, e274_156, e274_159, e274_160, e274_161, e274_164, e274_166, e274_169, e274_170, e274_171, e274_173, e274_176, m274, ↓reduceIte, qg_0, qg_1, qg_2, qg_3, qg_4, qg_5, qg_6, qg_7, qg_8, qg_9, qg_10, qg_11, qg_12, qg_13, not_true_eq_false, not_false_eq_true, Nat.reduceBEq, Bool.false_eq_true, ex1, ex3, ex4, exF, qfit_i, qfit_l, qfit_r, qfit_n, qfit_b0, qfit_b1, qcat_i, qcat_r, qcat_n, qcat_l, qroom_0, qroom_c, List.map_cons, List.map_nil, List.sum_cons, List.sum_nil, Nat.reduceAdd, Nat.reduceMul, Nat.reduceLT, Nat.reduceLeDiff, Nat.reduceEqDiff, Nat.reduceSub, decide_true, true_and, and_true, and_self, if_true, if_false, Option.toList_some, Option.toList_none, List.cons_append, List.nil_append, qsL, qlong, List.length_cons, List.length_nil, iN_L, vM1, vM2, exI, iN_add, iN_mul, iN_le, iN_lt, iN_eq, Nat.le_refl, qfN0, qfN1, Nat.add_zero]
    · refine ⟨-1002, h, fun R => ?_, Ch.refl s, Or.inr (Or.inl ⟨hy, hz, rfl⟩)⟩
      have y1' := y1 hy
      have inz : bI ((0 : Int64) ≤ z.toInt64 ∧ z.toInt64 ≤ 2) = 0 := if_neg (fun q => hz (in2.mp q))
      simp (disch := first | assumption | omega) only [e274_0, e274_1, e274_2, e274_3, e274_6, e274_9, e274_12, e274_13, e274_14, e274_15, e274_16, e274_19, e274_22, e274_25, e274_28, e274_29, e274_30, e274_31, e274_34, e274_35, e274_37, e274_38, e274_40, e274_41, e274_45, e274_48, e274_50, e274_52, e274_53, e274_55, e274_57, e274_58, e274_61, e274_62, e274_63, e274_66, e274_67, e274_70, e274_72, e274_73, e274_75, e274_76, e274_77, e274_78, e274_79, e274_82, e274_83, e274_84, e274_86, e274_89, e274_90, e274_91, e274_93, e274_96, e274_99, e274_101, e274_104, e274_106, e274_108, e274_111, e274_114, e274_116, e274_118, e274_121, e274_122, e274_125, e274_126, e274_128, e274_130, e274_132, e274_135, e274_136, e274_139, e274_140, e274_141, e274_143, e274_145, e274_147, e274_150, e274_151, e274_154, e274_156, e274_159, e274_160, e274_161, e274_164, e274_166, e274_169, e274_170, e274_171, e274_173, e274_176, m274, ↓reduceIte, qg_0, qg_1, qg_2, qg_3, qg_4, qg_5, qg_6, qg_7, qg_8, qg_9, qg_10, qg_11, qg_12, qg_13, not_true_eq_false, not_false_eq_true, Nat.reduceBEq, Bool.false_eq_true, ex1, ex3, ex4, exF, qfit_i, qfit_l, qfit_r, qfit_n, qfit_b0, qfit_b1, qcat_i, qcat_r, qcat_n, qcat_l, qroom_0, qroom_c, List.map_cons, List.map_nil, List.sum_cons, List.sum_nil, Nat.reduceAdd, Nat.reduceMul, Nat.reduceLT, Nat.reduceLeDiff, Nat.reduceEqDiff, Nat.reduceSub, decide_true, true_and, and_true, and_self, if_true, if_false, Option.toList_some, Option.toList_none, List.cons_append, List.nil_append, qsL, qlong, List.length_cons, List.length_nil, iN_L, vM1, vM2, exI, iN_add, iN_mul, iN_le, iN_lt, iN_eq, Nat.le_refl, qfN0, qfN1, y1', n1, s_in, inz]
  · refine ⟨-1001, h, fun R => ?_, Ch.refl s, Or.inl ⟨hy, rfl⟩⟩
    have y0' := y0 hy
    simp (disch := first | assumption | omega) only [e274_0, e274_1, e274_2, e274_3, e274_6, e274_9, e274_12, e274_13, e274_14, e274_15, e274_16, e274_19, e274_22, e274_25, e274_28, e274_29, e274_30, e274_31, e274_34, e274_35, e274_37, e274_38, e274_40, e274_41, e274_45, e274_48, e274_50, e274_52, e274_53, e274_55, e274_57, e274_58, e274_61, e274_62, e274_63, e274_66, e274_67, e274_70, e274_72, e274_73, e274_75, e274_76, e274_77, e274_78, e274_79, e274_82, e274_83, e274_84, e274_86, e274_89, e274_90, e274_91, e274_93, e274_96, e274_99, e274_101, e274_104, e274_106, e274_108, e274_111, e274_114, e274_116, e274_118, e274_121, e274_122, e274_125, e274_126, e274_128, e274_130, e274_132, e274_135, e274_136, e274_139, e274_140, e274_141, e274_143, e274_145, e274_147, e274_150, e274_151, e274_154, e274_156, e274_159, e274_160, e274_161, e274_164, e274_166, e274_169, e274_170, e274_171, e274_173, e274_176, m274, ↓reduceIte, qg_0, qg_1, qg_2, qg_3, qg_4, qg_5, qg_6, qg_7, qg_8, qg_9, qg_10, qg_11, qg_12, qg_13, not_true_eq_false, not_false_eq_true, Nat.reduceBEq, Bool.false_eq_true, ex1, ex3, ex4, exF, qfit_i, qfit_l, qfit_r, qfit_n, qfit_b0, qfit_b1, qcat_i, qcat_r, qcat_n, qcat_l, qroom_0, qroom_c, List.map_cons, List.map_nil, List.sum_cons, List.sum_nil, Nat.reduceAdd, Nat.reduceMul, Nat.reduceLT, Nat.reduceLeDiff, Nat.reduceEqDiff, Nat.reduceSub, decide_true, true_and, and_true, and_self, if_true, if_false, Option.toList_some, Option.toList_none, List.cons_append, List.nil_append, qsL, qlong, List.length_cons, List.length_nil, iN_L, vM1, vM2, exI, iN_add, iN_mul, iN_le, iN_lt, iN_eq, Nat.le_refl, qfN0, qfN1, y0']
end UP

/-! ===== THE CLASS: ups ===== -/
section XUPS2
variable {d : Nat} {h : qH} {bs : List bdy} {sa : Nat → Nat} {R : qRes} {tl : pt4}
def updZ (W : Nat → Int) (m : Nat) (z : Int) : Nat → Int := fun c => if c = m then z else W c
/-- the row of ways -/
def wyR (h : qH) (W : Nat → Int) : Nat → Int64 := fun c => if c < 16 then lZ (W c) else hl h 45 c
theorem hw_get {W : Nat → Int} {m : Nat} (s : ShX h) (hm : m < 16) : qlald (sL h 45 (wyR h W)) 45 (iN m) = some (lZ (W m)) := by
  rw [rdL ((hKd_sL (kX_45 s)).2.2.1 _ _ (kX_45 s)) hm, hl_sL, if_pos rfl]
  show some (if m < 16 then lZ (W m) else hl h 45 m) = _
  rw [if_pos hm]
theorem hw_put {W : Nat → Int} {m : Nat} {z : Int} (s : ShX h) (hm : m < 16) : qlast (sL h 45 (wyR h W)) 45 (iN m) (lZ z) = some (sL h 45 (wyR h (updZ W m z))) := by
  rw [wrL ((hKd_sL (kX_45 s)).2.2.1 _ _ (kX_45 s)) hm, sL_sL, hl_sL, if_pos rfl]
  congr 2
  funext c
  show (if c = m then lZ z else if c < 16 then lZ (W c) else hl h 45 c) = if c < 16 then lZ (if c = m then z else W c) else hl h 45 c
  by_cases e : c = m
  · rw [if_pos e, if_pos e, if_pos (by omega)]
  · rw [if_neg e, if_neg e]
theorem up_fold {adj : Nat → Nat → Bool} {ht : Nat → Int} {W : Nat → Int} {x : Nat} (hx : adj x x = false) : ∀ k, (pickN (adj x) k).foldl (fun W m => if ht x < ht m then updZ W m (W m + W x) else W) W = fun c => if c < k then upW adj ht W x c else W c
  | 0 => by funext c; rw [if_neg (Nat.not_lt_zero c)]; rfl
  | k + 1 => by
    have ux : upW adj ht W x x = W x := by unfold upW; rw [hx, Bool.false_and, if_neg Bool.false_ne_true, Int.add_zero]
    have px : (if x < k then upW adj ht W x x else W x) = W x := by rw [ux]; split <;> rfl
    rw [foldl_pick, up_fold hx k]
    try dsimp only
    rw [px, if_neg (Nat.lt_irrefl k)]
    funext c
    by_cases q1 : adj x k = true
    · rw [if_pos q1]
      by_cases q2 : ht x < ht k
      · rw [if_pos q2]
        show (if c = k then W k + W x else if c < k then upW adj ht W x c else W c) = _
        by_cases e : c = k
        · rw [if_pos e, if_pos (by omega), e]
          unfold upW
          rw [q1, decide_eq_true q2, Bool.true_and, if_pos rfl]
        · rw [if_neg e]
          by_cases e2 : c < k
          · rw [if_pos e2, if_pos (by omega)]
          · rw [if_neg e2, if_neg (by omega)]
      · rw [if_neg q2]
        try dsimp only
        by_cases e : c = k
        · rw [if_neg (by omega), if_pos (by omega), e]
          unfold upW
          rw [decide_eq_false q2, Bool.and_false, if_neg Bool.false_ne_true, Int.add_zero]
        · by_cases e2 : c < k
          · rw [if_pos e2, if_pos (by omega)]
          · rw [if_neg e2, if_neg (by omega)]
    · rw [if_neg q1]
      try dsimp only
      by_cases e : c = k
      · rw [if_neg (by omega), if_pos (by omega), e]
        unfold upW
        rw [show adj x k = false by cases z : adj x k with | false => rfl | true => exact absurd z q1, Bool.false_and, if_neg Bool.false_ne_true, Int.add_zero]
      · by_cases e2 : c < k
        · rw [if_pos e2, if_pos (by omega)]
        · rw [if_neg e2, if_neg (by omega)]
theorem wo_left {dn : Nat → Bool} {n x : Nat} : wo (mask (fun c => !dn c) n) (2 ^ x) = mask (fun c => !(dn c || decide (c = x))) n := by
  apply Nat.eq_of_testBit_eq
  intro k
  rw [wo_bit, mask_bit, mask_bit, Nat.testBit_two_pow]
  by_cases e : k = x
  · rw [decide_eq_true e, decide_eq_true (show x = k from e.symm)]; simp
  · rw [decide_eq_false e, decide_eq_false (show ¬ x = k from fun z => e z.symm)]; simp
theorem adj_self {es : List Nat} {x : Nat} : adjB es x x = false := by unfold adjB; rw [decide_eq_false (fun z => z rfl), Bool.and_false]
set_option maxRecDepth 100000 in
set_option maxHeartbeats 16000000 in
theorem up_round {i a b x k L0 : Nat} {W : Nat → Int} {x8 : Option Value} (s : ShX h) (X : BsX h bs sa) (tv : TlX h tl) (hi' : i < bs.length) (hx : x < (cnr bs i).length) : ∃ y8, ∀ R, qEv (d + 3) 1 qk_127 62 [some (.ref 43), some (.ref (sa i)), some (.int (iN a)), some (.int (iN b)), some (.int (iN L0)), some (.int (iN k)), some (.int (iN x)), some (.int (iN (mask (adjB (cel bs i 1) x) (cnr bs i).length))), x8] [] (sL h 45 (wyR h W)) R ↔ qEv (d + 3) 1 qk_127 24 [some (.ref 43), some (.ref (sa i)), some (.int (iN a)), some (.int (iN b)), some (.int (iN L0)), some (.int (iN (k + 1))), some (.int (iN x)), some (.int (iN 0)), y8] [] (sL h 45 (wyR h (fun c => if c < (cnr bs i).length then upW (adjB (cel bs i 1)) (htZ tl (cnr bs i) (dmn bs i)) W x c else W c))) R := by
  have cW : ∀ V, ChX [45] [] 0 h (sL h 45 (wyR h V)) := fun V => ChX.rowL s (kX_45 s) (by decide) (by decide)
  have hh : ∀ V c, c < (cnr bs i).length → ∀ R, qMC (d + 3) 124 [.ref 43, .ref (sa i), .int (iN c)] (sL h 45 (wyR h V)) R ↔ R = (some (.int (iZ (htZ tl (cnr bs i) (dmn bs i) c))), (sL h 45 (wyR h V))) := fun V c hc R => x_height (cW V).sh (X.ch s (cW V) (by decide) (by decide) (by decide)) (tv.ch (cW V) s (by decide)) hi' hc
  have ob : ∀ V, (16 ≤ sa i ∧ sa i < (sL h 45 (wyR h V)).2.1 ∧ ∃ F, (sL h 45 (wyR h V)).1 (sa i) = .inr (8, F)) := fun V => by
    obtain ⟨p, q, w, e, B, S, P⟩ := (X.ch s (cW V) (by decide) (by decide) (by decide)).at hi'
    exact S.obj.1
  obtain ⟨p, q, w, e, B, S, P⟩ := X.at hi'
  obtain ⟨n, en⟩ : ∃ n, n = (cnr bs i).length := ⟨_, rfl⟩
  obtain ⟨ht, eh⟩ : ∃ ht, ht = htZ tl (cnr bs i) (dmn bs i) := ⟨_, rfl⟩
  obtain ⟨adj, ea⟩ : ∃ adj, adj = adjB (cel bs i 1) := ⟨_, rfl⟩
  have n16 := P.2.1.2
  have hb : ∀ c, c < n → iB (ht c) := fun c hc => by
    have := htZ_sm P.1.2 tv (P.2.2.1 c (by rw [← en]; exact hc))
    rw [eh]; unfold iB; omega
  have axx : adj x x = false := by rw [ea]; exact adj_self
  rw [← en, ← eh] at hh
  rw [← en] at n16 hx
  rw [← en, ← ea, ← eh]
  refine ⟨((pickN (adj x) n).foldl (fun (b : (Nat → Int) × Option Value) m => (if ht x < ht m then updZ b.1 m (b.1 m + b.1 x) else b.1, some (.int (iN m)))) (W, x8)).2, fun R => ?_⟩
  have lp := (loop_mem (d := d + 3) (rt := 1) (K := qk_127) (pc := 62) (R := R) (α := (Nat → Int) × Option Value) (L := fun rest m => [some (.ref 43), some (.ref (sa i)), some (.int (iN a)), some (.int (iN b)), some (.int (iN L0)), some (.int (iN k)), some (.int (iN x)), some (.int (iN rest)), m.2]) (H := fun m => sL h 45 (wyR h m.1)) (f := fun b m => (if ht x < ht m then updZ b.1 m (b.1 m + b.1 x) else b.1, some (.int (iN m)))) (I := fun _ => True) (P := fun m => m < n) (fun m ms b hin hm _ => by
    have sl : ∀ R, qMC (d + 3) 178 [.int (iN (stL (m :: ms)))] (sL h 45 (wyR h b.1)) R ↔ R = (some (.int (iN m)), (sL h 45 (wyR h b.1))) := fun R => x_least hin
    have sd := stL_drop hin
    have sn := stL_ne hin
    have h1 := hh b.1 m hm
    have h2 := hh b.1 x hx
    have le := iZ_le (hb m hm) (hb x hx)
    have sW := (cW b.1).sh
    obtain ⟨o1, o2, o3⟩ := ob b.1
    have q1 := hw_get (W := b.1) s (show m < 16 by omega)
    have q2 := hw_get (W := b.1) s (show x < 16 by omega)
    have q3 := hw_put (W := b.1) (z := b.1 m + b.1 x) s (show m < 16 by omega)
    refine ⟨trivial, ?_⟩
    try dsimp only
    by_cases z : ht x < ht m
    · rw [if_pos z, e127_62]
      simp (disch := first | assumption | omega) only [e127_0, e127_1, e127_4, e127_5, e127_8, e127_9, e127_12, e127_13, e127_14, e127_15, e127_16, e127_19, e127_21, e127_22, e127_24, e127_26, e127_27, e127_30, e127_33, e127_34, e127_35, e127_37, e127_40, e127_42, e127_44, e127_45, e127_47, e127_48, e127_49, e127_50, e127_51, e127_53, e127_54, e127_57, e127_59, e127_60, e127_64, e127_67, e127_69, e127_72, e127_74, e127_75, e127_76, e127_78, e127_81, e127_82, e127_83, e127_85, e127_88, e127_91, e127_92, e127_95, e127_97, e127_98, e127_99, e127_100, e127_103, e127_105, e127_106, e127_107, e127_108, e127_110, e127_112, e127_113, e127_114, e127_115, e127_117, e127_120, e127_123, e127_126, e127_127, e127_130, e127_131, e127_132, m127, ↓reduceIte, qg_0, qg_1, qg_2, qg_3, qg_4, qg_5, qg_6, qg_7, qg_8, qg_9, qg_10, qg_11, qg_12, qg_13, not_true_eq_false, not_false_eq_true, Nat.reduceBEq, Bool.false_eq_true, ex1, ex3, ex4, exF, qfit_i, qfit_l, qfit_r, qfit_n, qfit_b0, qfit_b1, qcat_i, qcat_r, qcat_n, qcat_l, qroom_0, qroom_c, List.map_cons, List.map_nil, List.sum_cons, List.sum_nil, Nat.reduceAdd, Nat.reduceMul, Nat.reduceLT, Nat.reduceLeDiff, Nat.reduceEqDiff, Nat.reduceSub, decide_true, true_and, and_true, and_self, if_true, if_false, Option.toList_some, Option.toList_none, List.cons_append, List.nil_append, qsL, qlong, List.length_cons, List.length_nil, iN_L, exI, iN_add, iN_mul, iN_le, iN_lt, iN_eq, Nat.le_refl, qfN0, qfN1, uX_16, vX_16, uX_19, vX_19, uX_27, vX_27, uX_30, vX_30, uX_39, vX_39, uX_41, vX_41, uX_43, vX_43, uX_46, vX_46, uX_50, vX_50, uX_53, vX_53, sn, sl, o1, o2, o3, h1, h2, le, show ¬ ht m ≤ ht x by omega, gX_43_1, q1, q2, lZ_add, q3, sd]
    · rw [if_neg z, e127_62]
      simp (disch := first | assumption | omega) only [e127_0, e127_1, e127_4, e127_5, e127_8, e127_9, e127_12, e127_13, e127_14, e127_15, e127_16, e127_19, e127_21, e127_22, e127_24, e127_26, e127_27, e127_30, e127_33, e127_34, e127_35, e127_37, e127_40, e127_42, e127_44, e127_45, e127_47, e127_48, e127_49, e127_50, e127_51, e127_53, e127_54, e127_57, e127_59, e127_60, e127_64, e127_67, e127_69, e127_72, e127_74, e127_75, e127_76, e127_78, e127_81, e127_82, e127_83, e127_85, e127_88, e127_91, e127_92, e127_95, e127_97, e127_98, e127_99, e127_100, e127_103, e127_105, e127_106, e127_107, e127_108, e127_110, e127_112, e127_113, e127_114, e127_115, e127_117, e127_120, e127_123, e127_126, e127_127, e127_130, e127_131, e127_132, m127, ↓reduceIte, qg_0, qg_1, qg_2, qg_3, qg_4, qg_5, qg_6, qg_7, qg_8, qg_9, qg_10, qg_11, qg_12, qg_13, not_true_eq_false, not_false_eq_true, Nat.reduceBEq, Bool.false_eq_true, ex1, ex3, ex4, exF, qfit_i, qfit_l, qfit_r, qfit_n, qfit_b0, qfit_b1, qcat_i, qcat_r, qcat_n, qcat_l, qroom_0, qroom_c, List.map_cons, List.map_nil, List.sum_cons, List.sum_nil, Nat.reduceAdd, Nat.reduceMul, Nat.reduceLT, Nat.reduceLeDiff, Nat.reduceEqDiff, Nat.reduceSub, decide_true, true_and, and_true, and_self, if_true, if_false, Option.toList_some, Option.toList_none, List.cons_append, List.nil_append, qsL, qlong, List.length_cons, List.length_nil, iN_L, exI, iN_add, iN_mul, iN_le, iN_lt, iN_eq, Nat.le_refl, qfN0, qfN1, uX_16, vX_16, uX_19, vX_19, uX_27, vX_27, uX_30, vX_30, uX_39, vX_39, uX_41, vX_41, uX_43, vX_43, uX_46, vX_46, uX_50, vX_50, uX_53, vX_53, sn, sl, o1, o2, o3, h1, h2, le, show ht m ≤ ht x by omega, sd]) (pickN (adj x) n) (W, x8) (pickN_inL n n16) (fun m hm => (pickN_mem.mp hm).1) trivial).2
  have f1 : ∀ (ms : List Nat) (b : (Nat → Int) × Option Value), (ms.foldl (fun (b : (Nat → Int) × Option Value) m => (if ht x < ht m then updZ b.1 m (b.1 m + b.1 x) else b.1, some (.int (iN m)))) b).1 = ms.foldl (fun W m => if ht x < ht m then updZ W m (W m + W x) else W) b.1 := by
    intro ms
    induction ms with
    | nil => exact fun _ => rfl
    | cons m ms ih => exact fun b => ih _
  try dsimp only at lp
  rw [f1, up_fold axx n, show stL (pickN (adj x) n) = mask (adj x) n by rw [← mems_mask n16, stL_mems (mask_16 n16)]] at lp
  rw [lp, e127_62]
  simp (disch := first | assumption | omega) only [e127_0, e127_1, e127_4, e127_5, e127_8, e127_9, e127_12, e127_13, e127_14, e127_15, e127_16, e127_19, e127_21, e127_22, e127_26, e127_27, e127_30, e127_33, e127_34, e127_35, e127_37, e127_40, e127_42, e127_44, e127_45, e127_47, e127_48, e127_49, e127_50, e127_51, e127_53, e127_54, e127_57, e127_59, e127_60, e127_64, e127_67, e127_69, e127_72, e127_74, e127_75, e127_76, e127_78, e127_81, e127_82, e127_83, e127_85, e127_88, e127_91, e127_92, e127_95, e127_97, e127_98, e127_99, e127_100, e127_103, e127_105, e127_106, e127_107, e127_108, e127_110, e127_112, e127_113, e127_114, e127_115, e127_117, e127_120, e127_123, e127_126, e127_127, e127_130, e127_131, e127_132, m127, ↓reduceIte, qg_0, qg_1, qg_2, qg_3, qg_4, qg_5, qg_6, qg_7, qg_8, qg_9, qg_10, qg_11, qg_12, qg_13, not_true_eq_false, not_false_eq_true, Nat.reduceBEq, Bool.false_eq_true, ex1, ex3, ex4, exF, qfit_i, qfit_l, qfit_r, qfit_n, qfit_b0, qfit_b1, qcat_i, qcat_r, qcat_n, qcat_l, qroom_0, qroom_c, List.map_cons, List.map_nil, List.sum_cons, List.sum_nil, Nat.reduceAdd, Nat.reduceMul, Nat.reduceLT, Nat.reduceLeDiff, Nat.reduceEqDiff, Nat.reduceSub, decide_true, true_and, and_true, and_self, if_true, if_false, Option.toList_some, Option.toList_none, List.cons_append, List.nil_append, qsL, qlong, List.length_cons, List.length_nil, iN_L, exI, iN_add, iN_mul, iN_le, iN_lt, iN_eq, Nat.le_refl, qfN0, qfN1, uX_16, vX_16, uX_19, vX_19, uX_27, vX_27, uX_30, vX_30, uX_39, vX_39, uX_41, vX_41, uX_43, vX_43, uX_46, vX_46, uX_50, vX_50, uX_53, vX_53, stL_nil]
  exact Iff.rfl
end XUPS2

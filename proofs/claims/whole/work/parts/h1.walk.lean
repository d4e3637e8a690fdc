/-! ===== THE CLASS: loops over the members of a set; walks ===== -/
section XWALK
/-- a loop over the members of a set, the least first -/
theorem loop_mem {α : Type} {d : Nat} {rt : Int} {K : List (Nat × qI)} {pc : Nat} {R : qRes} {L : Nat → α → qL} {H : α → qH} {f : α → Nat → α} {I : α → Prop} {P : Nat → Prop} (step : ∀ m ms s, inL (m :: ms) → P m → I s → I (f s m) ∧ (qEv d rt K pc (L (stL (m :: ms)) s) [] (H s) R ↔ qEv d rt K pc (L (stL ms) (f s m)) [] (H (f s m)) R)) : ∀ (ms : List Nat) (s : α), inL ms → (∀ m, m ∈ ms → P m) → I s → I (ms.foldl f s) ∧ (qEv d rt K pc (L (stL ms) s) [] (H s) R ↔ qEv d rt K pc (L (stL []) (ms.foldl f s)) [] (H (ms.foldl f s)) R)
  | [], s, _, _, hs => ⟨hs, Iff.rfl⟩
  | m :: ms, s, hi', hp, hs => by
    obtain ⟨h1, h2⟩ := step m ms s hi' (hp m List.mem_cons_self) hs
    obtain ⟨h3, h4⟩ := loop_mem step ms (f s m) hi'.tl (fun x hx => hp x (List.mem_cons_of_mem _ hx)) h1
    exact ⟨h3, h2.trans h4⟩
theorem foldl_pick {α : Type} {f : α → Nat → α} {p : Nat → Bool} {s : α} (k : Nat) : (pickN p (k + 1)).foldl f s = if p k = true then f ((pickN p k).foldl f s) k else (pickN p k).foldl f s := by
  rw [pickN]
  split
  · rw [List.foldl_append]; rfl
  · rfl
theorem pickN_stop {p : Nat → Bool} {n : Nat} : ∀ {m : Nat}, n ≤ m → (∀ k, n ≤ k → p k = false) → pickN p m = pickN p n
  | 0, h1, _ => by rw [show n = 0 by omega]
  | m + 1, h1, h2 => by
    rcases Nat.lt_or_ge m n with z | z
    · rw [show n = m + 1 by omega]
    · rw [pickN, h2 m z, pickN_stop z h2]; rfl
theorem mems_mask {p : Nat → Bool} {n : Nat} (hn : n ≤ 16) : mems (mask p n) = pickN p n := by
  unfold mems
  rw [pickN_stop (n := n) hn (fun k hk => by rw [mask_bit, decide_eq_false (by omega), Bool.false_and])]
  exact pickN_ext fun k hk => by rw [mask_bit, decide_eq_true hk, Bool.true_and]
variable {d : Nat} {h : qH} {bs : List bdy} {sa : Nat → Nat} {R : qRes}
/-- those beside some, added up -/
theorem nx_fold {adj : Nat → Nat → Bool} {r : Nat → Bool} {n : Nat} : ∀ k, (pickN r k).foldl (fun m c => m ||| mask (adj c) n) (mask r n) = mask (nxM adj r k) n
  | 0 => by
    show mask r n = _
    exact mask_ext fun c _ => by unfold nxM; rw [anyN, Bool.or_false]
  | k + 1 => by rw [foldl_pick, nx_fold k, ← nxM_step]; split <;> simp
set_option maxRecDepth 100000 in
set_option maxHeartbeats 16000000 in
theorem x_steps {i a g t : Nat} (s : ShX h) (X : BsX h bs sa) (hi' : i < bs.length) (ha : a < (cnr bs i).length) (hg : g < 65536) (tn : t ≤ (cnr bs i).length) (t1 : wo g (mask (rch (adjB (cel bs i 1)) (cnr bs i).length a t) (cnr bs i).length) = 0) (t2 : ∀ k, k < t → wo g (mask (rch (adjB (cel bs i 1)) (cnr bs i).length a k) (cnr bs i).length) ≠ 0) : qMC (d + 3) 122 [.ref 43, .ref (sa i), .int (iN a), .int (iN g)] h R ↔ R = (some (.int (iN t)), h) := by
  obtain ⟨p, q, w, e, B, S, P⟩ := X.at hi'
  obtain ⟨⟨u16, ult, uF⟩, g0, g1, g2, g3, g4, g5, g6⟩ := S.obj
  obtain ⟨n, en⟩ : ∃ n, n = (cnr bs i).length := ⟨_, rfl⟩
  obtain ⟨adj, ea⟩ : ∃ adj, adj = adjB (cel bs i 1) := ⟨_, rfl⟩
  have n16 := P.2.1.2
  have nb : ∀ c, c < n → qiald h e (iN c) = some (iN (mask (adj c) n)) := fun c hc => by rw [en, ea]; exact S.ne (by rw [← en]; exact hc)
  rw [← en, ← ea] at t1 t2
  rw [← en] at ha tn n16 g1
  have ml : ∀ f, mask f n < 65536 := fun f => mask_16 n16
  have inner : ∀ (k : Nat) (r : Nat → Bool) (x7 : Option Value) (R : qRes), qEv (d + 2) 0 qk_122 34 [some (.ref 43), some (.ref (sa i)), some (.int (iN a)), some (.int (iN g)), some (.int (iN (mask r n))), some (.int (iN k)), some (.int (iN (mask r n))), some (.int (iN (mask r n)))] [] h R ↔ qEv (d + 2) 0 qk_122 8 [some (.ref 43), some (.ref (sa i)), some (.int (iN a)), some (.int (iN g)), some (.int (iN (mask (nxM adj r n) n))), some (.int (iN (k + 1))), some (.int (iN (mask (nxM adj r n) n))), some (.int (iN 0))] [] h R := by
    intro k r x7 R
    have lp := (loop_mem (d := d + 2) (rt := 0) (K := qk_122) (pc := 34) (R := R) (L := fun rest m => [some (.ref 43), some (.ref (sa i)), some (.int (iN a)), some (.int (iN g)), some (.int (iN (mask r n))), some (.int (iN k)), some (.int (iN m)), some (.int (iN rest))]) (H := fun _ => h) (f := fun m c => m ||| mask (adj c) n) (I := fun m => m < 65536) (P := fun c => c < n) (fun c ms m hin hc hm => by
      have sl : ∀ R, qMC (d + 2) 178 [.int (iN (stL (c :: ms)))] h R ↔ R = (some (.int (iN c)), h) := fun R => x_least hin
      have sd := stL_drop hin
      have sn := stL_ne hin
      have sb := nb c hc
      refine ⟨Nat.or_lt_two_pow (n := 16) hm (ml _), ?_⟩
      try dsimp only
      rw [e122_34]
      simp (disch := first | assumption | omega) only [e122_0, e122_1, e122_2, e122_3, e122_5, e122_6, e122_8, e122_9, e122_11, e122_12, e122_13, e122_14, e122_17, e122_19, e122_20, e122_23, e122_26, e122_28, e122_30, e122_32, e122_36, e122_39, e122_41, e122_42, e122_45, e122_47, e122_50, e122_51, e122_52, e122_54, e122_56, e122_58, e122_59, e122_60, e122_61, e122_63, e122_66, e122_68, e122_70, e122_73, e122_76, e122_78, m122, ↓reduceIte, qg_0, qg_1, qg_2, qg_3, qg_4, qg_5, qg_6, qg_7, qg_8, qg_9, qg_10, qg_11, qg_12, qg_13, not_true_eq_false, not_false_eq_true, Nat.reduceBEq, Bool.false_eq_true, ex1, ex3, ex4, exF, qfit_i, qfit_l, qfit_r, qfit_n, qfit_b0, qfit_b1, qcat_i, qcat_r, qcat_n, qcat_l, qroom_0, qroom_c, List.map_cons, List.map_nil, List.sum_cons, List.sum_nil, Nat.reduceAdd, Nat.reduceMul, Nat.reduceLT, Nat.reduceLeDiff, Nat.reduceEqDiff, Nat.reduceSub, decide_true, true_and, and_true, and_self, if_true, if_false, Option.toList_some, Option.toList_none, List.cons_append, List.nil_append, qsL, qlong, List.length_cons, List.length_nil, iN_L, exI, iN_add, iN_mul, iN_le, iN_lt, iN_eq, Nat.le_refl, qfN0, qfN1, uX_16, vX_16, uX_19, vX_19, uX_27, vX_27, uX_30, vX_30, uX_39, vX_39, uX_41, vX_41, uX_43, vX_43, uX_46, vX_46, uX_50, vX_50, uX_53, vX_53, sn, u16, ult, uF, g0, g1, g2, g3, g4, g5, g6, sl, sb, iN_or, sd]) (pickN r n) (mask r n) (pickN_inL n n16) (fun c hc => (pickN_mem.mp hc).1) (ml _)).2
    try dsimp only at lp
    rw [nx_fold n, ← mems_mask n16, stL_mems (ml _)] at lp
    rw [lp, e122_34]
    simp (disch := first | assumption | omega) only [e122_0, e122_1, e122_2, e122_3, e122_5, e122_6, e122_9, e122_11, e122_12, e122_13, e122_14, e122_17, e122_19, e122_20, e122_23, e122_26, e122_28, e122_30, e122_32, e122_36, e122_39, e122_41, e122_42, e122_45, e122_47, e122_50, e122_51, e122_52, e122_54, e122_56, e122_58, e122_59, e122_60, e122_61, e122_63, e122_66, e122_68, e122_70, e122_73, e122_76, e122_78, m122, ↓reduceIte, qg_0, qg_1, qg_2, qg_3, qg_4, qg_5, qg_6, qg_7, qg_8, qg_9, qg_10, qg_11, qg_12, qg_13, not_true_eq_false, not_false_eq_true, Nat.reduceBEq, Bool.false_eq_true, ex1, ex3, ex4, exF, qfit_i, qfit_l, qfit_r, qfit_n, qfit_b0, qfit_b1, qcat_i, qcat_r, qcat_n, qcat_l, qroom_0, qroom_c, List.map_cons, List.map_nil, List.sum_cons, List.sum_nil, Nat.reduceAdd, Nat.reduceMul, Nat.reduceLT, Nat.reduceLeDiff, Nat.reduceEqDiff, Nat.reduceSub, decide_true, true_and, and_true, and_self, if_true, if_false, Option.toList_some, Option.toList_none, List.cons_append, List.nil_append, qsL, qlong, List.length_cons, List.length_nil, iN_L, exI, iN_add, iN_mul, iN_le, iN_lt, iN_eq, Nat.le_refl, qfN0, qfN1, uX_16, vX_16, uX_19, vX_19, uX_27, vX_27, uX_30, vX_30, uX_39, vX_39, uX_41, vX_41, uX_43, vX_43, uX_46, vX_46, uX_50, vX_50, uX_53, vX_53, stL_nil]
    exact Iff.rfl
  have go : ∀ (w' k : Nat) (x6 x7 : Option Value), k + w' = t → (qEv (d + 2) 0 qk_122 8 [some (.ref 43), some (.ref (sa i)), some (.int (iN a)), some (.int (iN g)), some (.int (iN (mask (rch adj n a k) n))), some (.int (iN k)), x6, x7] [] h R ↔ R = (some (.int (iN t)), h)) := by
    intro w'
    induction w' with
    | zero =>
      intro k x6 x7 hk
      have ek : k = t := by omega
      subst ek
      rw [e122_8]
      simp (disch := first | assumption | omega) only [e122_0, e122_1, e122_2, e122_3, e122_5, e122_6, e122_9, e122_11, e122_12, e122_13, e122_14, e122_17, e122_19, e122_20, e122_23, e122_26, e122_28, e122_30, e122_32, e122_34, e122_36, e122_39, e122_41, e122_42, e122_45, e122_47, e122_50, e122_51, e122_52, e122_54, e122_56, e122_58, e122_59, e122_60, e122_61, e122_63, e122_66, e122_68, e122_70, e122_73, e122_76, e122_78, m122, ↓reduceIte, qg_0, qg_1, qg_2, qg_3, qg_4, qg_5, qg_6, qg_7, qg_8, qg_9, qg_10, qg_11, qg_12, qg_13, not_true_eq_false, not_false_eq_true, Nat.reduceBEq, Bool.false_eq_true, ex1, ex3, ex4, exF, qfit_i, qfit_l, qfit_r, qfit_n, qfit_b0, qfit_b1, qcat_i, qcat_r, qcat_n, qcat_l, qroom_0, qroom_c, List.map_cons, List.map_nil, List.sum_cons, List.sum_nil, Nat.reduceAdd, Nat.reduceMul, Nat.reduceLT, Nat.reduceLeDiff, Nat.reduceEqDiff, Nat.reduceSub, decide_true, true_and, and_true, and_self, if_true, if_false, Option.toList_some, Option.toList_none, List.cons_append, List.nil_append, qsL, qlong, List.length_cons, List.length_nil, iN_L, exI, iN_add, iN_mul, iN_le, iN_lt, iN_eq, Nat.le_refl, qfN0, qfN1, uX_16, vX_16, uX_19, vX_19, uX_27, vX_27, uX_30, vX_30, uX_39, vX_39, uX_41, vX_41, uX_43, vX_43, uX_46, vX_46, uX_50, vX_50, uX_53, vX_53, iN_wo', t1]
    | succ w' ih =>
      intro k x6 x7 hk
      have z := t2 k (by omega)
      have wl := wo_le g (mask (rch adj n a k) n)
      have st : qEv (d + 2) 0 qk_122 8 [some (.ref 43), some (.ref (sa i)), some (.int (iN a)), some (.int (iN g)), some (.int (iN (mask (rch adj n a k) n))), some (.int (iN k)), x6, x7] [] h R ↔ qEv (d + 2) 0 qk_122 34 [some (.ref 43), some (.ref (sa i)), some (.int (iN a)), some (.int (iN g)), some (.int (iN (mask (rch adj n a k) n))), some (.int (iN k)), some (.int (iN (mask (rch adj n a k) n))), some (.int (iN (mask (rch adj n a k) n)))] [] h R := by
        rw [e122_8]
        simp (disch := first | assumption | omega) only [e122_0, e122_1, e122_2, e122_3, e122_5, e122_6, e122_9, e122_11, e122_12, e122_13, e122_14, e122_17, e122_19, e122_20, e122_23, e122_26, e122_28, e122_30, e122_32, e122_36, e122_39, e122_41, e122_42, e122_45, e122_47, e122_50, e122_51, e122_52, e122_54, e122_56, e122_58, e122_59, e122_60, e122_61, e122_63, e122_66, e122_68, e122_70, e122_73, e122_76, e122_78, m122, ↓reduceIte, qg_0, qg_1, qg_2, qg_3, qg_4, qg_5, qg_6, qg_7, qg_8, qg_9, qg_10, qg_11, qg_12, qg_13, not_true_eq_false, not_false_eq_true, Nat.reduceBEq, Bool.false_eq_true, ex1, ex3, ex4, exF, qfit_i, qfit_l, qfit_r, qfit_n, qfit_b0, qfit_b1, qcat_i, qcat_r, qcat_n, qcat_l, qroom_0, qroom_c, List.map_cons, List.map_nil, List.sum_cons, List.sum_nil, Nat.reduceAdd, Nat.reduceMul, Nat.reduceLT, Nat.reduceLeDiff, Nat.reduceEqDiff, Nat.reduceSub, decide_true, true_and, and_true, and_self, if_true, if_false, Option.toList_some, Option.toList_none, List.cons_append, List.nil_append, qsL, qlong, List.length_cons, List.length_nil, iN_L, exI, iN_add, iN_mul, iN_le, iN_lt, iN_eq, Nat.le_refl, qfN0, qfN1, uX_16, vX_16, uX_19, vX_19, uX_27, vX_27, uX_30, vX_30, uX_39, vX_39, uX_41, vX_41, uX_43, vX_43, uX_46, vX_46, uX_50, vX_50, uX_53, vX_53, iN_wo', z, u16, ult, uF, g0, g1, g2, g3, g4, g5, g6, show ¬ n ≤ k by omega]
      rw [st, inner k _ x7 R]
      exact ih (k + 1) _ _ (by omega)
  have r0 : qMC (d + 3) 122 [.ref 43, .ref (sa i), .int (iN a), .int (iN g)] h R ↔ qEv (d + 2) 0 qk_122 8 [some (.ref 43), some (.ref (sa i)), some (.int (iN a)), some (.int (iN g)), some (.int (iN (mask (rch adj n a 0) n))), some (.int (iN 0)), none, none] [] h R := by
    rw [show mask (rch adj n a 0) n = 2 ^ a from (pow_mask ha).symm]
    simp (disch := first | assumption | omega) only [e122_0, e122_1, e122_2, e122_3, e122_5, e122_6, e122_9, e122_11, e122_12, e122_13, e122_14, e122_17, e122_19, e122_20, e122_23, e122_26, e122_28, e122_30, e122_32, e122_34, e122_36, e122_39, e122_41, e122_42, e122_45, e122_47, e122_50, e122_51, e122_52, e122_54, e122_56, e122_58, e122_59, e122_60, e122_61, e122_63, e122_66, e122_68, e122_70, e122_73, e122_76, e122_78, m122, ↓reduceIte, qg_0, qg_1, qg_2, qg_3, qg_4, qg_5, qg_6, qg_7, qg_8, qg_9, qg_10, qg_11, qg_12, qg_13, not_true_eq_false, not_false_eq_true, Nat.reduceBEq, Bool.false_eq_true, ex1, ex3, ex4, exF, qfit_i, qfit_l, qfit_r, qfit_n, qfit_b0, qfit_b1, qcat_i, qcat_r, qcat_n, qcat_l, qroom_0, qroom_c, List.map_cons, List.map_nil, List.sum_cons, List.sum_nil, Nat.reduceAdd, Nat.reduceMul, Nat.reduceLT, Nat.reduceLeDiff, Nat.reduceEqDiff, Nat.reduceSub, decide_true, true_and, and_true, and_self, if_true, if_false, Option.toList_some, Option.toList_none, List.cons_append, List.nil_append, qsL, qlong, List.length_cons, List.length_nil, iN_L, exI, iN_add, iN_mul, iN_le, iN_lt, iN_eq, Nat.le_refl, qfN0, qfN1, uX_16, vX_16, uX_19, vX_19, uX_27, vX_27, uX_30, vX_30, uX_39, vX_39, uX_41, vX_41, uX_43, vX_43, uX_46, vX_46, uX_50, vX_50, uX_53, vX_53, iN_shl1 a (show a < 31 by omega)]
  rw [r0]
  exact go t 0 _ _ (by omega)
end XWALK

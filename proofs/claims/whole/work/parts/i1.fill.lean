/-! ===== THE CLASS: rings, the table is filled ===== -/
section XFILL
variable {d : Nat} {h : qH} {bs : List bdy} {sa : Nat → Nat} {R : qRes}
theorem pop_part {S n : Nat} (h1 : S < 2 ^ n) (h2 : S ≠ 2 ^ n - 1) : pop S n < n := by
  obtain ⟨c, hc, hb⟩ : ∃ c, c < n ∧ S.testBit c = false := by
    apply Classical.byContradiction
    intro z
    refine h2 (Nat.eq_of_testBit_eq fun i => ?_)
    rw [Nat.testBit_two_pow_sub_one]
    by_cases hi' : i < n
    · rw [decide_eq_true hi']
      cases e : S.testBit i with
      | true => rfl
      | false => exact absurd ⟨i, hi', e⟩ z
    · rw [decide_eq_false hi']
      exact Nat.testBit_lt_two_pow (Nat.lt_of_lt_of_le h1 (Nat.pow_le_pow_right (by decide) (by omega)))
  have := pop_add hc hb
  have := pop_le (S ||| 2 ^ c) n
  omega
theorem pop_all {n : Nat} : pop (2 ^ n - 1) n = n := by
  have : ∀ m, m ≤ n → pop (2 ^ n - 1) m = m := by
    intro m
    induction m with
    | zero => exact fun _ => rfl
    | succ m ih =>
      intro hm
      rw [pop_s, ih (by omega), Nat.testBit_two_pow_sub_one, decide_eq_true (show m < n by omega)]; rfl
  exact this n (Nat.le_refl _)
theorem kv_two (k : Nat) : iN (2 * k + 1) + -iN 2 = kv (2 * k) := by
  rw [show -iN 2 = -iN 1 + -iN 1 by decide, ← Int32.add_assoc, kv_dec']
  exact kv_dec' (2 * k)
/-- those at which a way that has seen S may stand -/
def enB (S c : Nat) : Bool := if S = 1 then decide (c = 0) else S.testBit c && decide (c ≠ 0)
theorem en_set {S n : Nat} (hn : 1 ≤ n) (sn : S < 2 ^ n) : (if S = 1 then 1 else wo S 1) = mask (enB S) n := by
  refine mask_eq ?_ fun k hk => ?_
  · split
    · exact Nat.one_lt_two_pow (by omega)
    · have := wo_le S 1; omega
  · unfold enB
    by_cases e : S = 1
    · rw [if_pos e, if_pos e, show (1 : Nat) = 2 ^ 0 from rfl, Nat.testBit_two_pow]
      exact decide_eq_decide.mpr ⟨Eq.symm, Eq.symm⟩
    · rw [if_neg e, if_neg e, wo_bit, show (1 : Nat) = 2 ^ 0 from rfl, Nat.testBit_two_pow]
      congr 1
      by_cases z : k = 0
      · rw [z]; rfl
      · rw [decide_eq_false (show ¬ 0 = k by omega), decide_eq_true z]; rfl
set_option maxRecDepth 100000 in
set_option maxHeartbeats 16000000 in
theorem ffX_row {i f k : Nat} {G : Nat → Int32} {x4 x5 x6 : Option Value} (s : ShX h) (X : BsX h bs sa) (hi' : i < bs.length) (n12 : (cnr bs i).length ≤ 12) (h4 : hf h 43 4 = .ref f) (kf : kI h f 2048) (f97 : 97 ≤ f) (hk : 2 * k + 1 < 2 ^ (cnr bs i).length - 1) (tb : tbO G (adjB (cel bs i 1)) (cnr bs i).length (2 * k + 3)) : ∃ G' y4 y5 y6, tbO G' (adjB (cel bs i 1)) (cnr bs i).length (2 * k + 1) ∧ ∀ R, qEv (d + 2) 4 qk_130 39 [some (.ref 43), some (.ref (sa i)), some (.int (iN (2 ^ (cnr bs i).length - 1))), some (.int (iN (2 * k + 1))), x4, x5, x6] [] (sI h f G) R ↔ qEv (d + 2) 4 qk_130 39 [some (.ref 43), some (.ref (sa i)), some (.int (iN (2 ^ (cnr bs i).length - 1))), some (.int (kv (2 * k))), y4, y5, y6] [] (sI h f G') R := by
  have cG : ChX [f] [] 0 h (sI h f G) := ChX.rowI s kf (by simp) (by omega)
  have sG := cG.sh
  have kG : kI (sI h f G) f 2048 := (hKd_sI kf).2.1 _ _ kf
  have fXO : f ∉ XO := fun z => by have := (by decide : ∀ x ∈ XO, x < 97) f z; omega
  have ks : kpS h (sI h f G) := kpS.row (f := f) (Nat.le_refl _) (fun b _ _ hb => by rw [at_sI, if_neg hb]) (fun _ => kf)
  obtain ⟨p, q, w, e, B, S0, P⟩ := X.at hi'
  have S' := S0.kp ks P
  have h4G : hf (sI h f G) 43 4 = .ref f := by rw [hf_sI kf]; exact h4
  have gf : qget (sI h f G) 43 9 4 = some (.ref f) := by rw [gX_43_4 sG, h4G]
  have hiG : hi (sI h f G) f = G := by rw [hi_sI, if_pos rfl]
  obtain ⟨n, en⟩ : ∃ n, n = (cnr bs i).length := ⟨_, rfl⟩
  obtain ⟨adj, ea⟩ : ∃ adj, adj = adjB (cel bs i 1) := ⟨_, rfl⟩
  have so : (2 * k + 1) % 2 = 1 := by omega
  have pp := Nat.two_pow_pos (cnr bs i).length
  have tb1 : tbO (hi (sI h f G) f) (adjB (cel bs i 1)) (cnr bs i).length (2 * k + 1 + 1) := by
    rw [hiG]
    exact fun S s1 s2 s3 => tb S s1 (by omega) s3
  have gn : ∀ c, c < (cnr bs i).length → ∀ R, qMC (d + 2) 131 [.ref 43, .ref (sa i), .int (iN c), .int (iN (2 * k + 1))] (sI h f G) R ↔ R = (some (.int (iN (gnM (adjB (cel bs i 1)) (cnr bs i).length (2 * k + 1) c))), sI h f G) := fun c hc R => x_good sG S' n12 hc so (by omega) h4G kG tb1
  obtain ⟨⟨u16, ult, uF⟩, g0, g1, g2, g3, g4, g5, g6⟩ := S'.obj
  have n3 : 3 ≤ (cnr bs i).length := by have := P.2.1.1; have := P.1; omega
  rw [← en, ← ea] at tb gn tb1
  rw [← en] at n12 hk n3
  rw [← en, ← ea]
  have p12 := pw_12 n12
  have n16 : n ≤ 16 := by omega
  have sn : 2 * k + 1 < 2 ^ n := by omega
  have hp : pop (2 * k + 1) n < n := pop_part sn (by omega)
  have ml : ∀ f, mask f n < 65536 := fun f => mask_16 n16
  obtain ⟨t, et⟩ : ∃ t : Nat → Bool, t = fun c => decide (gnM adj n (2 * k + 1) c ≠ 0) := ⟨_, rfl⟩
  have gl : ∀ c, gnM adj n (2 * k + 1) c < 65536 := fun c => ml _
  have tt : ∀ c, t c = finB adj n (n - pop (2 * k + 1) n) (2 * k + 1) c := fun c => by
    rw [et, Bool.eq_iff_iff]
    exact (decide_eq_true_iff).trans (gn_some hp)
  have ee := en_set (S := 2 * k + 1) (n := n) (by omega) sn
  have lp := fun R => (loop_mem (d := d + 2) (rt := 4) (K := qk_130) (pc := 65) (R := R) (α := Nat) (L := fun rest m => [some (.ref 43), some (.ref (sa i)), some (.int (iN (2 ^ n - 1))), some (.int (iN (2 * k + 1))), some (.int (iN m)), some (.int (iN (mask (enB (2 * k + 1)) n))), some (.int (iN rest))]) (H := fun _ => sI h f G) (f := fun b c => b ||| (if t c = true then 2 ^ c else 0)) (I := fun _ => True) (P := fun c => c < n) (fun c ms b hin hc _ => by
    have sl := stL_low hin
    have sd := stL_drop hin
    have snn := stL_ne hin
    have st : ∀ R, qMC (d + 2) 178 [.int (iN (stL (c :: ms)))] (sI h f G) R ↔ R = (some (.int (iN c)), sI h f G) := fun R => x_least hin
    have gc := gn c hc
    have gb := gl c
    refine ⟨trivial, ?_⟩
    try dsimp only
    by_cases z : gnM adj n (2 * k + 1) c = 0
    · rw [show t c = false by rw [et]; exact decide_eq_false (fun y => y z), if_neg Bool.false_ne_true, Nat.or_zero, e130_65]
      simp (disch := first | assumption | omega) only [e130_0, e130_1, e130_4, e130_4N, e130_7, e130_8, e130_11, e130_13, e130_16, e130_17, e130_20, e130_21, e130_22, e130_25, e130_26, e130_27, e130_28, e130_29, e130_32, e130_33, e130_34, e130_35, e130_36, e130_37, e130_38, e130_39, e130_40, e130_43, e130_44, e130_46, e130_47, e130_48, e130_51, e130_52, e130_55, e130_56, e130_58, e130_59, e130_61, e130_63, e130_67, e130_70, e130_71, e130_72, e130_74, e130_77, e130_78, e130_81, e130_84, e130_86, e130_88, e130_90, e130_91, e130_92, e130_93, e130_95, e130_97, e130_99, e130_100, e130_101, e130_102, e130_104, e130_107, e130_108, e130_111, e130_112, e130_113, e130_114, e130_116, e130_117, e130_120, e130_123, m130, ↓reduceIte, qg_0, qg_1, qg_2, qg_3, qg_4, qg_5, qg_6, qg_7, qg_8, qg_9, qg_10, qg_11, qg_12, qg_13, not_true_eq_false, not_false_eq_true, Nat.reduceBEq, Bool.false_eq_true, ex1, ex3, ex4, exF, qfit_i, qfit_l, qfit_r, qfit_n, qfit_b0, qfit_b1, qcat_i, qcat_r, qcat_n, qcat_l, qroom_0, qroom_c, List.map_cons, List.map_nil, List.sum_cons, List.sum_nil, Nat.reduceAdd, Nat.reduceMul, Nat.reduceLT, Nat.reduceLeDiff, Nat.reduceEqDiff, Nat.reduceSub, decide_true, true_and, and_true, and_self, if_true, if_false, Option.toList_some, Option.toList_none, List.cons_append, List.nil_append, qsL, qlong, List.length_cons, List.length_nil, iN_L, exI, iN_add, iN_mul, iN_le, iN_lt, iN_eq, Nat.le_refl, qfN0, qfN1, uX_16, vX_16, uX_19, vX_19, uX_27, vX_27, uX_30, vX_30, uX_39, vX_39, uX_41, vX_41, uX_43, vX_43, uX_46, vX_46, uX_50, vX_50, uX_53, vX_53, snn, st, gc, z, sd]
    · rw [show t c = true by rw [et]; exact decide_eq_true z, if_pos rfl, e130_65]
      simp (disch := first | assumption | omega) only [e130_0, e130_1, e130_4, e130_4N, e130_7, e130_8, e130_11, e130_13, e130_16, e130_17, e130_20, e130_21, e130_22, e130_25, e130_26, e130_27, e130_28, e130_29, e130_32, e130_33, e130_34, e130_35, e130_36, e130_37, e130_38, e130_39, e130_40, e130_43, e130_44, e130_46, e130_47, e130_48, e130_51, e130_52, e130_55, e130_56, e130_58, e130_59, e130_61, e130_63, e130_67, e130_70, e130_71, e130_72, e130_74, e130_77, e130_78, e130_81, e130_84, e130_86, e130_88, e130_90, e130_91, e130_92, e130_93, e130_95, e130_97, e130_99, e130_100, e130_101, e130_102, e130_104, e130_107, e130_108, e130_111, e130_112, e130_113, e130_114, e130_116, e130_117, e130_120, e130_123, m130, ↓reduceIte, qg_0, qg_1, qg_2, qg_3, qg_4, qg_5, qg_6, qg_7, qg_8, qg_9, qg_10, qg_11, qg_12, qg_13, not_true_eq_false, not_false_eq_true, Nat.reduceBEq, Bool.false_eq_true, ex1, ex3, ex4, exF, qfit_i, qfit_l, qfit_r, qfit_n, qfit_b0, qfit_b1, qcat_i, qcat_r, qcat_n, qcat_l, qroom_0, qroom_c, List.map_cons, List.map_nil, List.sum_cons, List.sum_nil, Nat.reduceAdd, Nat.reduceMul, Nat.reduceLT, Nat.reduceLeDiff, Nat.reduceEqDiff, Nat.reduceSub, decide_true, true_and, and_true, and_self, if_true, if_false, Option.toList_some, Option.toList_none, List.cons_append, List.nil_append, qsL, qlong, List.length_cons, List.length_nil, iN_L, exI, iN_add, iN_mul, iN_le, iN_lt, iN_eq, Nat.le_refl, qfN0, qfN1, uX_16, vX_16, uX_19, vX_19, uX_27, vX_27, uX_30, vX_30, uX_39, vX_39, uX_41, vX_41, uX_43, vX_43, uX_46, vX_46, uX_50, vX_50, uX_53, vX_53, snn, st, gc, z, sl, iN_or b, sd]) (pickN (enB (2 * k + 1)) n) 0 (pickN_inL n n16) (fun c hc => (pickN_mem.mp hc).1) trivial).2
  try dsimp only at lp
  rw [or_fold n, ← mems_mask n16, stL_mems (ml _)] at lp
  obtain ⟨m, em⟩ : ∃ m, m = mask (fun c => enB (2 * k + 1) c && t c) n := ⟨_, rfl⟩
  rw [← em] at lp
  have bm : ∀ c, c < n → m.testBit c = (enB (2 * k + 1) c && t c) := fun c hc => by rw [em, mask_bit, decide_eq_true hc, Bool.true_and]
  have wr : qiast (sI h f G) f (iN k) (iN m) = some (sI h f (upd G k (iN m))) := by rw [wrI kG (by omega), sI_sI, hiG]
  have sh : iN (2 * k + 1) >>> (iN 1 &&& iN 31) = iN k := by rw [iN_shr (by omega) (by omega), shr1, show (2 * k + 1) / 2 = k by omega]
  have m2 : -iN 2 = iN 1 ^^^ -iN 1 := by decide
  refine ⟨upd G k (iN m), some (.int (iN m)), some (.int (iN (mask (enB (2 * k + 1)) n))), some (.int (iN 0)), fun S s1 s2 s3 => ?_, fun R => ?_⟩
  · by_cases eS : S = 2 * k + 1
    · subst eS
      refine ⟨m, by rw [em]; exact ml _, by rw [show (2 * k + 1) / 2 = k by omega, upd_at, if_pos rfl], fun l hl l0 lb => ?_, fun e1 => ?_⟩
      · rw [bm l hl, tt]
        unfold enB
        by_cases e1 : 2 * k + 1 = 1
        · rw [e1, show (1 : Nat) = 2 ^ 0 from rfl, Nat.testBit_two_pow] at lb
          exact absurd (of_decide_eq_true lb).symm l0
        · rw [if_neg e1, lb, decide_eq_true l0]; rfl
      · rw [bm 0 (by omega), tt]
        unfold enB
        rw [if_pos e1, e1, show pop 1 n = 1 from pop_one (c := 0) (by omega)]
        rfl
    · obtain ⟨m', a1, a2, a3, a4⟩ := tb S s1 (by omega) s3
      exact ⟨m', a1, by rw [upd_at, if_neg (by omega)]; exact a2, a3, a4⟩
  · have st : qEv (d + 2) 4 qk_130 39 [some (.ref 43), some (.ref (sa i)), some (.int (iN (2 ^ n - 1))), some (.int (iN (2 * k + 1))), x4, x5, x6] [] (sI h f G) R ↔ qEv (d + 2) 4 qk_130 65 [some (.ref 43), some (.ref (sa i)), some (.int (iN (2 ^ n - 1))), some (.int (iN (2 * k + 1))), some (.int (iN 0)), some (.int (iN (mask (enB (2 * k + 1)) n))), some (.int (iN (mask (enB (2 * k + 1)) n)))] [] (sI h f G) R := by
      rw [← ee, e130_39]
      by_cases e1 : 2 * k + 1 = 1
      · rw [if_pos e1]
        simp (disch := first | assumption | omega) only [e130_0, e130_1, e130_4, e130_4N, e130_7, e130_8, e130_11, e130_13, e130_16, e130_17, e130_20, e130_21, e130_22, e130_25, e130_26, e130_27, e130_28, e130_29, e130_32, e130_33, e130_34, e130_35, e130_36, e130_37, e130_38, e130_40, e130_43, e130_44, e130_46, e130_47, e130_48, e130_51, e130_52, e130_55, e130_56, e130_58, e130_59, e130_61, e130_63, e130_67, e130_70, e130_71, e130_72, e130_74, e130_77, e130_78, e130_81, e130_84, e130_86, e130_88, e130_90, e130_91, e130_92, e130_93, e130_95, e130_97, e130_99, e130_100, e130_101, e130_102, e130_104, e130_107, e130_108, e130_111, e130_112, e130_113, e130_114, e130_116, e130_117, e130_120, e130_123, m130, ↓reduceIte, qg_0, qg_1, qg_2, qg_3, qg_4, qg_5, qg_6, qg_7, qg_8, qg_9, qg_10, qg_11, qg_12, qg_13, not_true_eq_false, not_false_eq_true, Nat.reduceBEq, Bool.false_eq_true, ex1, ex3, ex4, exF, qfit_i, qfit_l, qfit_r, qfit_n, qfit_b0, qfit_b1, qcat_i, qcat_r, qcat_n, qcat_l, qroom_0, qroom_c, List.map_cons, List.map_nil, List.sum_cons, List.sum_nil, Nat.reduceAdd, Nat.reduceMul, Nat.reduceLT, Nat.reduceLeDiff, Nat.reduceEqDiff, Nat.reduceSub, decide_true, true_and, and_true, and_self, if_true, if_false, Option.toList_some, Option.toList_none, List.cons_append, List.nil_append, qsL, qlong, List.length_cons, List.length_nil, iN_L, exI, iN_add, iN_mul, iN_le, iN_lt, iN_eq, Nat.le_refl, qfN0, qfN1, uX_16, vX_16, uX_19, vX_19, uX_27, vX_27, uX_30, vX_30, uX_39, vX_39, uX_41, vX_41, uX_43, vX_43, uX_46, vX_46, uX_50, vX_50, uX_53, vX_53, show ¬ 2 * k + 1 ≤ 0 by omega, e1]
      · rw [if_neg e1]
        simp (disch := first | assumption | omega) only [e130_0, e130_1, e130_4, e130_4N, e130_7, e130_8, e130_11, e130_13, e130_16, e130_17, e130_20, e130_21, e130_22, e130_25, e130_26, e130_27, e130_28, e130_29, e130_32, e130_33, e130_34, e130_35, e130_36, e130_37, e130_38, e130_40, e130_43, e130_44, e130_46, e130_47, e130_48, e130_51, e130_52, e130_55, e130_56, e130_58, e130_59, e130_61, e130_63, e130_67, e130_70, e130_71, e130_72, e130_74, e130_77, e130_78, e130_81, e130_84, e130_86, e130_88, e130_90, e130_91, e130_92, e130_93, e130_95, e130_97, e130_99, e130_100, e130_101, e130_102, e130_104, e130_107, e130_108, e130_111, e130_112, e130_113, e130_114, e130_116, e130_117, e130_120, e130_123, m130, ↓reduceIte, qg_0, qg_1, qg_2, qg_3, qg_4, qg_5, qg_6, qg_7, qg_8, qg_9, qg_10, qg_11, qg_12, qg_13, not_true_eq_false, not_false_eq_true, Nat.reduceBEq, Bool.false_eq_true, ex1, ex3, ex4, exF, qfit_i, qfit_l, qfit_r, qfit_n, qfit_b0, qfit_b1, qcat_i, qcat_r, qcat_n, qcat_l, qroom_0, qroom_c, List.map_cons, List.map_nil, List.sum_cons, List.sum_nil, Nat.reduceAdd, Nat.reduceMul, Nat.reduceLT, Nat.reduceLeDiff, Nat.reduceEqDiff, Nat.reduceSub, decide_true, true_and, and_true, and_self, if_true, if_false, Option.toList_some, Option.toList_none, List.cons_append, List.nil_append, qsL, qlong, List.length_cons, List.length_nil, iN_L, exI, iN_add, iN_mul, iN_le, iN_lt, iN_eq, Nat.le_refl, qfN0, qfN1, uX_16, vX_16, uX_19, vX_19, uX_27, vX_27, uX_30, vX_30, uX_39, vX_39, uX_41, vX_41, uX_43, vX_43, uX_46, vX_46, uX_50, vX_50, uX_53, vX_53, show ¬ 2 * k + 1 ≤ 0 by omega, e1, m2, iN_wo']
    rw [st, lp R, e130_65]
    simp (disch := first | assumption | omega) only [e130_0, e130_1, e130_4, e130_4N, e130_7, e130_8, e130_11, e130_13, e130_16, e130_17, e130_20, e130_21, e130_22, e130_25, e130_26, e130_27, e130_28, e130_29, e130_32, e130_33, e130_34, e130_35, e130_36, e130_37, e130_38, e130_40, e130_43, e130_44, e130_46, e130_47, e130_48, e130_51, e130_52, e130_55, e130_56, e130_58, e130_59, e130_61, e130_63, e130_67, e130_70, e130_71, e130_72, e130_74, e130_77, e130_78, e130_81, e130_84, e130_86, e130_88, e130_90, e130_91, e130_92, e130_93, e130_95, e130_97, e130_99, e130_100, e130_101, e130_102, e130_104, e130_107, e130_108, e130_111, e130_112, e130_113, e130_114, e130_116, e130_117, e130_120, e130_123, m130, ↓reduceIte, qg_0, qg_1, qg_2, qg_3, qg_4, qg_5, qg_6, qg_7, qg_8, qg_9, qg_10, qg_11, qg_12, qg_13, not_true_eq_false, not_false_eq_true, Nat.reduceBEq, Bool.false_eq_true, ex1, ex3, ex4, exF, qfit_i, qfit_l, qfit_r, qfit_n, qfit_b0, qfit_b1, qcat_i, qcat_r, qcat_n, qcat_l, qroom_0, qroom_c, List.map_cons, List.map_nil, List.sum_cons, List.sum_nil, Nat.reduceAdd, Nat.reduceMul, Nat.reduceLT, Nat.reduceLeDiff, Nat.reduceEqDiff, Nat.reduceSub, decide_true, true_and, and_true, and_self, if_true, if_false, Option.toList_some, Option.toList_none, List.cons_append, List.nil_append, qsL, qlong, List.length_cons, List.length_nil, iN_L, exI, iN_add, iN_mul, iN_le, iN_lt, iN_eq, Nat.le_refl, qfN0, qfN1, uX_16, vX_16, uX_19, vX_19, uX_27, vX_27, uX_30, vX_30, uX_39, vX_39, uX_41, vX_41, uX_43, vX_43, uX_46, vX_46, uX_50, vX_50, uX_53, vX_53, stL_nil, gf, sh, wr, kv_two]
    exact Iff.rfl
end XFILL

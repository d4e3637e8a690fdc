/-! ===== THE CLASS: rings, the whole table ===== -/
section XFILL2
variable {d : Nat} {h : qH} {bs : List bdy} {sa : Nat → Nat} {R : qRes}
/-- the row for rings: none yet, or one of 2048 -/
def FnX (h : qH) : Prop := hf h 43 4 = .null ∨ ∃ f : Nat, hf h 43 4 = .ref f ∧ 97 ≤ f ∧ kI h f 2048
set_option maxRecDepth 100000 in
set_option maxHeartbeats 16000000 in
theorem ff_new {a : Nat} (s : ShX h) (fn : FnX h) : ∃ (h1 : qH) (f : Nat), (∀ R, qMC (d + 3) 130 [.ref 43, .ref a] h R ↔ qEv (d + 2) 4 qk_130 16 [some (.ref 43), some (.ref a), none, none, none, none, none] [] h1 R) ∧ ChX [] [(43, 4)] 5 h h1 ∧ hf h1 43 4 = .ref f ∧ kI h1 f 2048 ∧ 97 ≤ f ∧ (f < h.2.1 → kI h f 2048) := by
  rcases fn with hn | ⟨f, h1, h2, h3⟩
  · have g9 : qget h 43 9 4 = some .null := by rw [gX_43_4 s, hn]
    obtain ⟨z1, z2⟩ := nN 2048 (by omega)
    obtain ⟨g, eg⟩ : ∃ g, g = qnew h (.inl (0, 2048, .inl (fun _ => iN 0))) 2048 := ⟨_, rfl⟩
    have c1 : ChX [] [(43, 4)] 5 h g := by rw [eg]; exact ChX.new s (by decide) (by decide)
    have s1 := c1.sh
    obtain ⟨k1, k2⟩ := kI_new (h := h) (n := 2048) (m := 2048) (g := fun _ => iN 0) (by decide) s
    rw [← eg] at k1 k2
    obtain ⟨g2, eg2⟩ : ∃ g2, g2 = xV g 43 4 (.ref h.2.1) := ⟨_, rfl⟩
    have c2 : ChX [] [(43, 4)] 0 g g2 := by rw [eg2]; exact ChX.setR s1 (by decide) (by decide)
    have p2 : qput g 43 9 4 (.ref h.2.1) = some g2 := by rw [eg2]; exact pX_43_4 s1
    refine ⟨g2, h.2.1, fun R => ?_, (c1.trans c2).mono (fun _ z => z) (fun _ z => z) (by decide), by rw [eg2, hf_xV, if_pos ⟨rfl, rfl⟩], by rw [eg2]; exact kI_xV k1 (oX_43 s1), ge97 s, fun z => absurd z (Nat.lt_irrefl _)⟩
    simp (disch := first | assumption | omega) only [e130_0, e130_1, e130_4, e130_4N, e130_7, e130_8, e130_11, e130_13, e130_17, e130_20, e130_21, e130_22, e130_25, e130_26, e130_27, e130_28, e130_29, e130_32, e130_33, e130_34, e130_35, e130_36, e130_37, e130_38, e130_39, e130_40, e130_43, e130_44, e130_46, e130_47, e130_48, e130_51, e130_52, e130_55, e130_56, e130_58, e130_59, e130_61, e130_63, e130_65, e130_67, e130_70, e130_71, e130_72, e130_74, e130_77, e130_78, e130_81, e130_84, e130_86, e130_88, e130_90, e130_91, e130_92, e130_93, e130_95, e130_97, e130_99, e130_100, e130_101, e130_102, e130_104, e130_107, e130_108, e130_111, e130_112, e130_113, e130_114, e130_116, e130_117, e130_120, e130_123, m130, ↓reduceIte, qg_0, qg_1, qg_2, qg_3, qg_4, qg_5, qg_6, qg_7, qg_8, qg_9, qg_10, qg_11, qg_12, qg_13, not_true_eq_false, not_false_eq_true, Nat.reduceBEq, Bool.false_eq_true, ex1, ex3, ex4, exF, qfit_i, qfit_l, qfit_r, qfit_n, qfit_b0, qfit_b1, qcat_i, qcat_r, qcat_n, qcat_l, qroom_0, qroom_c, List.map_cons, List.map_nil, List.sum_cons, List.sum_nil, Nat.reduceAdd, Nat.reduceMul, Nat.reduceLT, Nat.reduceLeDiff, Nat.reduceEqDiff, Nat.reduceSub, decide_true, true_and, and_true, and_self, if_true, if_false, Option.toList_some, Option.toList_none, List.cons_append, List.nil_append, qsL, qlong, List.length_cons, List.length_nil, iN_L, exI, iN_add, iN_mul, iN_le, iN_lt, iN_eq, Nat.le_refl, qfN0, qfN1, uX_16, vX_16, uX_19, vX_19, uX_27, vX_27, uX_30, vX_30, uX_39, vX_39, uX_41, vX_41, uX_43, vX_43, uX_46, vX_46, uX_50, vX_50, uX_53, vX_53, g9, z1, z2, or_self, ← eg, p2]
  · have g9 : qget h 43 9 4 = some (.ref f) := by rw [gX_43_4 s, h1]
    refine ⟨h, f, fun R => ?_, ChX.refl s, h1, h3, h2, fun _ => h3⟩
    simp (disch := first | assumption | omega) only [e130_0, e130_1, e130_4, e130_4N, e130_7, e130_8, e130_11, e130_13, e130_17, e130_20, e130_21, e130_22, e130_25, e130_26, e130_27, e130_28, e130_29, e130_32, e130_33, e130_34, e130_35, e130_36, e130_37, e130_38, e130_39, e130_40, e130_43, e130_44, e130_46, e130_47, e130_48, e130_51, e130_52, e130_55, e130_56, e130_58, e130_59, e130_61, e130_63, e130_65, e130_67, e130_70, e130_71, e130_72, e130_74, e130_77, e130_78, e130_81, e130_84, e130_86, e130_88, e130_90, e130_91, e130_92, e130_93, e130_95, e130_97, e130_99, e130_100, e130_101, e130_102, e130_104, e130_107, e130_108, e130_111, e130_112, e130_113, e130_114, e130_116, e130_117, e130_120, e130_123, m130, ↓reduceIte, qg_0, qg_1, qg_2, qg_3, qg_4, qg_5, qg_6, qg_7, qg_8, qg_9, qg_10, qg_11, qg_12, qg_13, not_true_eq_false, not_false_eq_true, Nat.reduceBEq, Bool.false_eq_true, ex1, ex3, ex4, exF, qfit_i, qfit_l, qfit_r, qfit_n, qfit_b0, qfit_b1, qcat_i, qcat_r, qcat_n, qcat_l, qroom_0, qroom_c, List.map_cons, List.map_nil, List.sum_cons, List.sum_nil, Nat.reduceAdd, Nat.reduceMul, Nat.reduceLT, Nat.reduceLeDiff, Nat.reduceEqDiff, Nat.reduceSub, decide_true, true_and, and_true, and_self, if_true, if_false, Option.toList_some, Option.toList_none, List.cons_append, List.nil_append, qsL, qlong, List.length_cons, List.length_nil, iN_L, exI, iN_add, iN_mul, iN_le, iN_lt, iN_eq, Nat.le_refl, qfN0, qfN1, uX_16, vX_16, uX_19, vX_19, uX_27, vX_27, uX_30, vX_30, uX_39, vX_39, uX_41, vX_41, uX_43, vX_43, uX_46, vX_46, uX_50, vX_50, uX_53, vX_53, g9]
set_option maxRecDepth 100000 in
set_option maxHeartbeats 16000000 in
theorem ff_all {i f : Nat} (s : ShX h) (X : BsX h bs sa) (hi' : i < bs.length) (n12 : (cnr bs i).length ≤ 12) (h4 : hf h 43 4 = .ref f) (kf : kI h f 2048) (f97 : 97 ≤ f) : ∃ G, tbO G (adjB (cel bs i 1)) (cnr bs i).length 1 ∧ ∀ R, qEv (d + 2) 4 qk_130 16 [some (.ref 43), some (.ref (sa i)), none, none, none, none, none] [] h R ↔ R = (none, sI h f G) := by
  obtain ⟨p, q, w, e, B, S, P⟩ := X.at hi'
  obtain ⟨⟨u16, ult, uF⟩, g0, g1, g2, g3, g4, g5, g6⟩ := S.obj
  have n3 : 3 ≤ (cnr bs i).length := by have := P.2.1.1; have := P.1; omega
  have p12 := pw_12 n12
  have p8 : 2 ^ 3 ≤ 2 ^ (cnr bs i).length := Nat.pow_le_pow_right (by decide) n3
  have p8' : 8 ≤ 2 ^ (cnr bs i).length := p8
  have ev : ∀ R, qMC (d + 2) 103 [.ref (sa i)] h R ↔ R = (some (.int (iN (2 ^ (cnr bs i).length - 1))), h) := fun R => x_every S P.2.1.2
  have gf : qget h 43 9 4 = some (.ref f) := by rw [gX_43_4 s, h4]
  have nb := S.ne (c := 0) (by omega)
  have go : ∀ (k : Nat) (G : Nat → Int32) (x4 x5 x6 : Option Value), 2 * k + 1 ≤ 2 ^ (cnr bs i).length - 1 → tbO G (adjB (cel bs i 1)) (cnr bs i).length (2 * k + 1) → ∃ G', tbO G' (adjB (cel bs i 1)) (cnr bs i).length 1 ∧ ∀ R, qEv (d + 2) 4 qk_130 39 [some (.ref 43), some (.ref (sa i)), some (.int (iN (2 ^ (cnr bs i).length - 1))), some (.int (kv (2 * k))), x4, x5, x6] [] (sI h f G) R ↔ R = (none, sI h f G') := by
    intro k
    induction k with
    | zero =>
      intro G x4 x5 x6 hk tb
      refine ⟨G, tb, fun R => ?_⟩
      have k0 : kv (2 * 0) ≤ iN 0 := by decide
      rw [e130_39]
      simp (disch := first | assumption | omega) only [e130_0, e130_1, e130_4, e130_4N, e130_7, e130_8, e130_11, e130_13, e130_16, e130_17, e130_20, e130_21, e130_22, e130_25, e130_26, e130_27, e130_28, e130_29, e130_32, e130_33, e130_34, e130_35, e130_36, e130_37, e130_38, e130_40, e130_43, e130_44, e130_46, e130_47, e130_48, e130_51, e130_52, e130_55, e130_56, e130_58, e130_59, e130_61, e130_63, e130_65, e130_67, e130_70, e130_71, e130_72, e130_74, e130_77, e130_78, e130_81, e130_84, e130_86, e130_88, e130_90, e130_91, e130_92, e130_93, e130_95, e130_97, e130_99, e130_100, e130_101, e130_102, e130_104, e130_107, e130_108, e130_111, e130_112, e130_113, e130_114, e130_116, e130_117, e130_120, e130_123, m130, ↓reduceIte, qg_0, qg_1, qg_2, qg_3, qg_4, qg_5, qg_6, qg_7, qg_8, qg_9, qg_10, qg_11, qg_12, qg_13, not_true_eq_false, not_false_eq_true, Nat.reduceBEq, Bool.false_eq_true, ex1, ex3, ex4, exF, qfit_i, qfit_l, qfit_r, qfit_n, qfit_b0, qfit_b1, qcat_i, qcat_r, qcat_n, qcat_l, qroom_0, qroom_c, List.map_cons, List.map_nil, List.sum_cons, List.sum_nil, Nat.reduceAdd, Nat.reduceMul, Nat.reduceLT, Nat.reduceLeDiff, Nat.reduceEqDiff, Nat.reduceSub, decide_true, true_and, and_true, and_self, if_true, if_false, Option.toList_some, Option.toList_none, List.cons_append, List.nil_append, qsL, qlong, List.length_cons, List.length_nil, iN_L, exI, iN_add, iN_mul, iN_le, iN_lt, iN_eq, Nat.le_refl, qfN0, qfN1, uX_16, vX_16, uX_19, vX_19, uX_27, vX_27, uX_30, vX_30, uX_39, vX_39, uX_41, vX_41, uX_43, vX_43, uX_46, vX_46, uX_50, vX_50, uX_53, vX_53, k0]
    | succ k ih =>
      intro G x4 x5 x6 hk tb
      obtain ⟨G', y4, y5, y6, t1, r1⟩ := ffX_row (d := d) (x4 := x4) (x5 := x5) (x6 := x6) s X hi' n12 h4 kf f97 (show 2 * k + 1 < 2 ^ (cnr bs i).length - 1 by omega) tb
      obtain ⟨G2, t2, r2⟩ := ih G' y4 y5 y6 (by omega) t1
      refine ⟨G2, t2, fun R => ?_⟩
      rw [← r2 R, ← r1 R]
      exact Iff.rfl
  obtain ⟨K, eK⟩ : ∃ K, 2 * K + 1 = 2 ^ (cnr bs i).length - 1 := by
    refine ⟨2 ^ ((cnr bs i).length - 1) - 1, ?_⟩
    have : 2 ^ (cnr bs i).length = 2 * 2 ^ ((cnr bs i).length - 1) := by
      rw [Nat.mul_comm, ← Nat.pow_succ, show ((cnr bs i).length - 1).succ = (cnr bs i).length by omega]
    have := Nat.two_pow_pos ((cnr bs i).length - 1)
    omega
  obtain ⟨G1, eG⟩ : ∃ G1, G1 = upd (hi h f) K (iN (mask (adjB (cel bs i 1) 0) (cnr bs i).length)) := ⟨_, rfl⟩
  obtain ⟨G, tb, r⟩ := go K G1 none none none (by omega) (fun S s1 s2 s3 => by
    have eS : S = 2 * K + 1 := by omega
    subst eS
    refine ⟨mask (adjB (cel bs i 1) 0) (cnr bs i).length, mask_16 P.2.1.2, by rw [eG, upd_at, if_pos (by omega)], fun l hl l0 lb => ?_, fun e1 => by omega⟩
    rw [mask_bit, decide_eq_true hl, Bool.true_and, eK, pop_all, Nat.sub_self, adj_sym]
    rfl)
  refine ⟨G, tb, fun R => ?_⟩
  have sh : iN (2 ^ (cnr bs i).length - 1) >>> (iN 1 &&& iN 31) = iN K := by rw [← eK, iN_shr (by omega) (by omega), shr1, show (2 * K + 1) / 2 = K by omega]
  have wr : qiast h f (iN K) (iN (mask (adjB (cel bs i 1) 0) (cnr bs i).length)) = some (sI h f G1) := by rw [wrI kf (by omega), eG]
  have e3 : iN (2 ^ (cnr bs i).length - 1) - iN 2 = kv (2 * K) := by
    rw [iN_sub (by omega), show 2 ^ (cnr bs i).length - 1 - 2 = 2 * K - 1 by omega]
    have : 2 * K = (2 * K - 1) + 1 := by omega
    rw [this]
    rfl
  rw [← r R, e130_16]
  simp (disch := first | assumption | omega) only [e130_0, e130_1, e130_4, e130_4N, e130_7, e130_8, e130_11, e130_13, e130_17, e130_20, e130_21, e130_22, e130_25, e130_26, e130_27, e130_28, e130_29, e130_32, e130_33, e130_34, e130_35, e130_36, e130_37, e130_38, e130_40, e130_43, e130_44, e130_46, e130_47, e130_48, e130_51, e130_52, e130_55, e130_56, e130_58, e130_59, e130_61, e130_63, e130_65, e130_67, e130_70, e130_71, e130_72, e130_74, e130_77, e130_78, e130_81, e130_84, e130_86, e130_88, e130_90, e130_91, e130_92, e130_93, e130_95, e130_97, e130_99, e130_100, e130_101, e130_102, e130_104, e130_107, e130_108, e130_111, e130_112, e130_113, e130_114, e130_116, e130_117, e130_120, e130_123, m130, ↓reduceIte, qg_0, qg_1, qg_2, qg_3, qg_4, qg_5, qg_6, qg_7, qg_8, qg_9, qg_10, qg_11, qg_12, qg_13, not_true_eq_false, not_false_eq_true, Nat.reduceBEq, Bool.false_eq_true, ex1, ex3, ex4, exF, qfit_i, qfit_l, qfit_r, qfit_n, qfit_b0, qfit_b1, qcat_i, qcat_r, qcat_n, qcat_l, qroom_0, qroom_c, List.map_cons, List.map_nil, List.sum_cons, List.sum_nil, Nat.reduceAdd, Nat.reduceMul, Nat.reduceLT, Nat.reduceLeDiff, Nat.reduceEqDiff, Nat.reduceSub, decide_true, true_and, and_true, and_self, if_true, if_false, Option.toList_some, Option.toList_none, List.cons_append, List.nil_append, qsL, qlong, List.length_cons, List.length_nil, iN_L, exI, iN_add, iN_mul, iN_le, iN_lt, iN_eq, Nat.le_refl, qfN0, qfN1, uX_16, vX_16, uX_19, vX_19, uX_27, vX_27, uX_30, vX_30, uX_39, vX_39, uX_41, vX_41, uX_43, vX_43, uX_46, vX_46, uX_50, vX_50, uX_53, vX_53, u16, ult, uF, g0, g1, g2, g3, g4, g5, g6, ev, gf, sh, nb, wr, e3]
end XFILL2

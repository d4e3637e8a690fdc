/-! ===== THE REFERENCE: findFaces ===== -/
section AF
variable {d i D m : Nat} {h h0 : qH} {F : Nat → Nat}
theorem ffOk.mono {M M' : Nat → Nat} {T T' : Nat → Nat → Nat} {u y j : Nat} (h : ffOk M T F u y j) (hm : ∀ y, ffIn M T y → ffIn M' T' y) : ffOk M' T' F u y j := by
  rcases h with h | h | h | h
  · exact Or.inl h
  · exact Or.inr (Or.inl h)
  · exact Or.inr (Or.inr (Or.inl h))
  · exact Or.inr (Or.inr (Or.inr (hm _ h)))
def ffD (M : Nat → Nat) (T : Nat → Nat → Nat) (F U : Nat → Nat) (m t : Nat) : Prop := ∀ t' j, t' < t → j < m → ffOk M T F (U t') (U t' &&& F j) j
def ffQ (h0 : qH) (i D m : Nat) (F : Nat → Nat) (t al0 : Nat) : Nat → qL → qH → Prop := fun k L h' => ∃ all M T U y6 y7, L = [some (.ref 55), some (.int (iN i)), some (.int (iN all)), some (.int (iN m)), some (.int (iN t)), some (.int (iN k)), y6, y7] ∧ qlong y6 = false ∧ qlong y7 = false ∧ ffI h0 h' i D m F all M T U ∧ (t < all ∧ al0 ≤ all) ∧ ffD M T F U m t ∧ ∀ j, j < k → ffOk M T F (U t) (U t &&& F j) j
set_option maxRecDepth 100000 in
set_option maxHeartbeats 16000000 in
theorem ff_row {all t : Nat} {M : Nat → Nat} {T : Nat → Nat → Nat} {U : Nat → Nat} {x5 x6 x7 : Option Value} (hi' : i < 24) (hD : 2 ≤ D ∧ D ≤ 4) (hd : hi h0 56 i = iN D) (hm : m ≤ 104) (hF : ∀ k, k < m → F k < 65536 ∧ F k ≠ 0) (g : ffG F m D) (I : ffI h0 h i D m F all M T U) (ht : t < all) (hall : all < 1000) (hx6 : qlong x6 = false) (hx7 : qlong x7 = false) (hdn : ffD M T F U m t) :
    ∃ h' all' M' T' U' y6 y7, (∀ R, qEv (d + 3) 4 qk_213 42 [some (.ref 55), some (.int (iN i)), some (.int (iN all)), some (.int (iN m)), some (.int (iN t)), x5, x6, x7] [] h R ↔ qEv (d + 3) 4 qk_213 42 [some (.ref 55), some (.int (iN i)), some (.int (iN all')), some (.int (iN m)), some (.int (iN (t + 1))), some (.int (iN m)), y6, y7] [] h' R) ∧ qlong y6 = false ∧ qlong y7 = false ∧ all ≤ all' ∧ ffI h0 h' i D m F all' M' T' U' ∧ ffD M' T' F U' m (t + 1) := by
  have r0 : ∀ R, qEv (d + 3) 4 qk_213 42 [some (.ref 55), some (.int (iN i)), some (.int (iN all)), some (.int (iN m)), some (.int (iN t)), x5, x6, x7] [] h R ↔ qEv (d + 3) 4 qk_213 51 [some (.ref 55), some (.int (iN i)), some (.int (iN all)), some (.int (iN m)), some (.int (iN t)), some (.int (iN 0)), x6, x7] [] h R := by
    intro R
    rw [e213_42]
    simp (disch := first | assumption | omega) only [e213_0, e213_1, e213_2, e213_3, e213_4, e213_7, e213_8, e213_9, e213_11, e213_13, e213_14, e213_17, e213_18, e213_21, e213_22, e213_23, e213_24, e213_26, e213_29, e213_30, e213_33, e213_36, e213_39, e213_40, e213_44, e213_45, e213_48, e213_49, e213_53, e213_54, e213_57, e213_58, e213_61, e213_63, e213_64, e213_65, e213_66, e213_68, e213_71, e213_72, e213_74, e213_76, e213_79, e213_81, e213_82, e213_85, e213_87, e213_88, e213_91, e213_93, e213_94, e213_95, e213_97, e213_100, e213_103, e213_104, e213_105, e213_107, e213_110, e213_113, e213_114, e213_117, e213_118, e213_120, e213_122, e213_125, e213_126, e213_129, e213_130, e213_132, e213_133, e213_136, e213_139, e213_142, e213_145, e213_148, m213, ↓reduceIte, qg_0, qg_1, qg_2, qg_3, qg_4, qg_5, qg_6, qg_7, qg_8, qg_9, qg_10, qg_11, qg_12, qg_13, not_true_eq_false, not_false_eq_true, Nat.reduceBEq, Bool.false_eq_true, ex1, ex3, ex4, exF, qfit_i, qfit_l, qfit_r, qfit_n, qfit_b0, qfit_b1, qcat_i, qcat_r, qcat_n, qcat_l, qroom_0, qroom_c, List.map_cons, List.map_nil, List.sum_cons, List.sum_nil, Nat.reduceAdd, Nat.reduceMul, Nat.reduceLT, Nat.reduceLeDiff, Nat.reduceEqDiff, Nat.reduceSub, decide_true, true_and, and_true, and_self, if_true, if_false, Option.toList_some, Option.toList_none, List.cons_append, List.nil_append, qsL, qlong, List.length_cons, List.length_nil, iN_L, iN_le, show ¬ all ≤ t by omega]
  obtain ⟨L', h', ⟨all', M', T', U', y6, y7, rfl, q6, q7, I', ⟨ht', le'⟩, dn', ok'⟩, r1⟩ := loop_inv (d := d + 3) (rt := 4) (K := qk_213) (pc := 51) (P := ffQ h0 i D m F t all) (n := m) (fun k L h hk hP => by
    obtain ⟨all, M, T, U, y6, y7, rfl, q6, q7, I, ⟨ht, le0⟩, dn, ok⟩ := hP
    obtain ⟨h', all', M', T', U', z6, z7, r, p6, p7, I', le, same, mono, okn⟩ := ff_step (d := d) (x6 := y6) (x7 := y7) h0 hi' hD hd hm hF g I ht hk q6 q7
    refine ⟨_, h', ⟨all', M', T', U', z6, z7, rfl, p6, p7, I', by omega, fun t' j h1 h2 => ?_, fun j hj => ?_⟩, r⟩
    · rw [same t' (by omega)]; exact (dn t' j h1 h2).mono mono
    · rw [same t ht]
      by_cases e : j = k
      · subst e; exact okn
      · exact (ok j (by omega)).mono mono) (L := [some (.ref 55), some (.int (iN i)), some (.int (iN all)), some (.int (iN m)), some (.int (iN t)), some (.int (iN 0)), x6, x7]) (h := h) ⟨all, M, T, U, x6, x7, rfl, hx6, hx7, I, ⟨ht, Nat.le_refl _⟩, hdn, fun j hj => absurd hj (Nat.not_lt_zero j)⟩
  have ba := I'.2.2.2.2.1
  have b0 := (I'.2.1 0 (by decide)).2.1
  have b1 := (I'.2.1 1 (by decide)).2.1
  have b2 := (I'.2.1 2 (by decide)).2.1
  refine ⟨h', all', M', T', U', y6, y7, fun R => ?_, q6, q7, le', I', fun t' j h1 h2 => ?_⟩
  · rw [r0 R, r1 R, e213_51]
    simp (disch := first | assumption | omega) only [e213_0, e213_1, e213_2, e213_3, e213_4, e213_7, e213_8, e213_9, e213_11, e213_13, e213_14, e213_17, e213_18, e213_21, e213_22, e213_23, e213_24, e213_26, e213_29, e213_30, e213_33, e213_36, e213_39, e213_40, e213_44, e213_45, e213_48, e213_49, e213_53, e213_54, e213_57, e213_58, e213_61, e213_63, e213_64, e213_65, e213_66, e213_68, e213_71, e213_72, e213_74, e213_76, e213_79, e213_81, e213_82, e213_85, e213_87, e213_88, e213_91, e213_93, e213_94, e213_95, e213_97, e213_100, e213_103, e213_104, e213_105, e213_107, e213_110, e213_113, e213_114, e213_117, e213_118, e213_120, e213_122, e213_125, e213_126, e213_129, e213_130, e213_132, e213_133, e213_136, e213_139, e213_142, e213_145, e213_148, m213, ↓reduceIte, qg_0, qg_1, qg_2, qg_3, qg_4, qg_5, qg_6, qg_7, qg_8, qg_9, qg_10, qg_11, qg_12, qg_13, not_true_eq_false, not_false_eq_true, Nat.reduceBEq, Bool.false_eq_true, ex1, ex3, ex4, exF, qfit_i, qfit_l, qfit_r, qfit_n, qfit_b0, qfit_b1, qcat_i, qcat_r, qcat_n, qcat_l, qroom_0, qroom_c, List.map_cons, List.map_nil, List.sum_cons, List.sum_nil, Nat.reduceAdd, Nat.reduceMul, Nat.reduceLT, Nat.reduceLeDiff, Nat.reduceEqDiff, Nat.reduceSub, decide_true, true_and, and_true, and_self, if_true, if_false, Option.toList_some, Option.toList_none, List.cons_append, List.nil_append, qsL, qlong, List.length_cons, List.length_nil, iN_L, iN_le, Nat.le_refl, exI, iN_add]
  · by_cases e : t' = t
    · subst e; exact ok' j h2
    · exact dn' t' j (by omega) h2
def ffP (h0 : qH) (i D m : Nat) (F : Nat → Nat) : Nat × Nat → qL → qH → Prop := fun x L h' => ∃ M T U x5 y6 y7, L = [some (.ref 55), some (.int (iN i)), some (.int (iN x.2)), some (.int (iN m)), some (.int (iN x.1)), x5, y6, y7] ∧ qlong y6 = false ∧ qlong y7 = false ∧ x.1 ≤ x.2 ∧ ffI h0 h' i D m F x.2 M T U ∧ ffD M T F U m x.1
set_option maxRecDepth 100000 in
set_option maxHeartbeats 16000000 in
theorem s_findFaces {M : Nat → Nat} {T : Nat → Nat → Nat} (s : ShM h) (hi' : i < 24) (hD : 2 ≤ D ∧ D ≤ 4) (hd : hi h 56 i = iN D) (hm : m ≤ 104) (hF : ∀ k, k < m → F k < 65536 ∧ F k ≠ 0) (g : ffG F m D) (v : FaceV h i M T) (m0 : ∀ K, K < D - 1 → M K = 0) (m1 : M (D - 1) = m) (m2 : ∀ k, k < m → T (D - 1) k = F k) :
    ∃ h' M' T', (∀ R, qMC (d + 4) 213 [.ref 55, .int (iN i)] h R ↔ R = (none, h')) ∧ Ch [60, 61, 69] [] h h' ∧ ffO h h' i D ∧ (∀ K, D ≤ K → K < 4 → M' K = M K) ∧ FaceV h' i M' T' ∧ (M' (D - 1) = m ∧ ∀ k, k < m → T' (D - 1) k = F k) ∧ ∀ K, K < D - 1 → srt (T' K) (M' K) ∧ ∀ y, (∃ k, k < M' K ∧ T' K k = y) ↔ Meet F m y ∧ (∀ j, j < m → y ≠ F j) ∧ kindOf y = K := by
  have k69 := kM_69 s
  have sh : ∀ G, ShM (sI h 69 G) := fun G => s.rowI k69
  have hf : ∀ j, j < m → hi h 61 (208 * (4 * i + (D - 1)) + j) = iN (F j) := fun j hj => by
    rw [((v (D - 1) (by omega)).2.2 j (by omega)).1, m2 j hj]
  have hfm : hi h 60 (4 * i + (D - 1)) = iN m := by rw [(v (D - 1) (by omega)).1, m1]
  have r0 : ∀ R, qMC (d + 4) 213 [.ref 55, .int (iN i)] h R ↔ qEv (d + 3) 4 qk_213 42 [some (.ref 55), some (.int (iN i)), some (.int (iN m)), some (.int (iN m)), some (.int (iN 0)), none, none, none] [] (sI h 69 (fun k => if k < m then iN (F k) else hi h 69 k)) R := by
    intro R
    simp (disch := first | assumption | omega) only [e213_0, e213_1, e213_2, e213_3, e213_4, e213_7, e213_8, e213_9, e213_13, e213_14, e213_17, e213_18, e213_21, e213_22, e213_23, e213_24, e213_26, e213_29, e213_30, e213_33, e213_36, e213_39, e213_40, e213_44, e213_45, e213_48, e213_49, e213_51, e213_53, e213_54, e213_57, e213_58, e213_61, e213_63, e213_64, e213_65, e213_66, e213_68, e213_71, e213_72, e213_74, e213_76, e213_79, e213_81, e213_82, e213_85, e213_87, e213_88, e213_91, e213_93, e213_94, e213_95, e213_97, e213_100, e213_103, e213_104, e213_105, e213_107, e213_110, e213_113, e213_114, e213_117, e213_118, e213_120, e213_122, e213_125, e213_126, e213_129, e213_130, e213_132, e213_133, e213_136, e213_139, e213_142, e213_145, e213_148, m213, ↓reduceIte, qg_0, qg_1, qg_2, qg_3, qg_4, qg_5, qg_6, qg_7, qg_8, qg_9, qg_10, qg_11, qg_12, qg_13, not_true_eq_false, not_false_eq_true, Nat.reduceBEq, Bool.false_eq_true, ex1, ex3, ex4, exF, qfit_i, qfit_l, qfit_r, qfit_n, qfit_b0, qfit_b1, qcat_i, qcat_r, qcat_n, qcat_l, qroom_0, qroom_c, List.map_cons, List.map_nil, List.sum_cons, List.sum_nil, Nat.reduceAdd, Nat.reduceMul, Nat.reduceLT, Nat.reduceLeDiff, Nat.reduceEqDiff, Nat.reduceSub, decide_true, true_and, and_true, and_self, if_true, if_false, Option.toList_some, Option.toList_none, List.cons_append, List.nil_append, qsL, qlong, List.length_cons, List.length_nil, iN_L, vM1, vM2, s_facets (d := d + 1) s hi' hd (by omega) (by omega), hfm]
    have H0 : h = sI h 69 (fun k => if k < 0 then iN (F k) else hi h 69 k) := by
      have : (fun k => if k < 0 then iN (F k) else hi h 69 k) = hi h 69 := by funext k; rw [if_neg (by omega)]
      rw [this, sI_id k69]
    rw [show qEv (d + 3) 4 qk_213 11 [some (.ref 55), some (.int (iN i)), some (.int (iN 0)), some (.int (iN m)), some (.int (iN 0)), none, none, none] [] h R ↔ qEv (d + 3) 4 qk_213 11 [some (.ref 55), some (.int (iN i)), some (.int (iN 0)), some (.int (iN m)), some (.int (iN 0)), none, none, none] [] (sI h 69 (fun k => if k < 0 then iN (F k) else hi h 69 k)) R by rw [← H0]]
    refine Iff.trans (loop_up (n := m) (L := fun k => [some (.ref 55), some (.int (iN i)), some (.int (iN k)), some (.int (iN m)), some (.int (iN k)), none, none, none]) (H := fun q => sI h 69 (fun k => if k < q then iN (F k) else hi h 69 k)) ?_) ?_
    · intro q hq
      try dsimp only
      rw [e213_11]
      have eq1 : upd (fun k => if k < q then iN (F k) else hi h 69 k) q (iN (F q)) = fun k => if k < q + 1 then iN (F k) else hi h 69 k := by
        funext k
        rw [upd_at]
        by_cases h1 : k = q
        · subst h1; rw [if_pos rfl, if_pos (by omega)]
        · rw [if_neg h1]
          by_cases h2 : k < q
          · rw [if_pos h2, if_pos (by omega)]
          · rw [if_neg h2, if_neg (by omega)]
      have sq := sh (fun k => if k < q then iN (F k) else hi h 69 k)
      have dq : hi (sI h 69 (fun k => if k < q then iN (F k) else hi h 69 k)) 56 i = iN D := by rw [hi_sI, if_neg (by decide)]; exact hd
      have fq : hi (sI h 69 (fun k => if k < q then iN (F k) else hi h 69 k)) 61 (208 * (4 * i + (D - 1)) + q) = iN (F q) := by rw [hi_sI, if_neg (by decide)]; exact hf q hq
      simp (disch := first | assumption | omega) only [e213_0, e213_1, e213_2, e213_3, e213_4, e213_7, e213_8, e213_9, e213_13, e213_14, e213_17, e213_18, e213_21, e213_22, e213_23, e213_24, e213_26, e213_29, e213_30, e213_33, e213_36, e213_39, e213_40, e213_44, e213_45, e213_48, e213_49, e213_51, e213_53, e213_54, e213_57, e213_58, e213_61, e213_63, e213_64, e213_65, e213_66, e213_68, e213_71, e213_72, e213_74, e213_76, e213_79, e213_81, e213_82, e213_85, e213_87, e213_88, e213_91, e213_93, e213_94, e213_95, e213_97, e213_100, e213_103, e213_104, e213_105, e213_107, e213_110, e213_113, e213_114, e213_117, e213_118, e213_120, e213_122, e213_125, e213_126, e213_129, e213_130, e213_132, e213_133, e213_136, e213_139, e213_142, e213_145, e213_148, m213, ↓reduceIte, qg_0, qg_1, qg_2, qg_3, qg_4, qg_5, qg_6, qg_7, qg_8, qg_9, qg_10, qg_11, qg_12, qg_13, not_true_eq_false, not_false_eq_true, Nat.reduceBEq, Bool.false_eq_true, ex1, ex3, ex4, exF, qfit_i, qfit_l, qfit_r, qfit_n, qfit_b0, qfit_b1, qcat_i, qcat_r, qcat_n, qcat_l, qroom_0, qroom_c, List.map_cons, List.map_nil, List.sum_cons, List.sum_nil, Nat.reduceAdd, Nat.reduceMul, Nat.reduceLT, Nat.reduceLeDiff, Nat.reduceEqDiff, Nat.reduceSub, decide_true, true_and, and_true, and_self, if_true, if_false, Option.toList_some, Option.toList_none, List.cons_append, List.nil_append, qsL, qlong, List.length_cons, List.length_nil, iN_L, iN_le, show ¬ m ≤ q by omega, gM_17, vM1, vM2, s_facet (d := d + 1) sq hi' dq (by omega) (by omega) (show 208 * (4 * i + (D - 1)) + q < 19968 by omega), fq, wM_69, hi_sI, sI_sI, eq1, exI, iN_add]
    · try dsimp only
      rw [e213_11]
      simp (disch := first | assumption | omega) only [e213_0, e213_1, e213_2, e213_3, e213_4, e213_7, e213_8, e213_9, e213_13, e213_14, e213_17, e213_18, e213_21, e213_22, e213_23, e213_24, e213_26, e213_29, e213_30, e213_33, e213_36, e213_39, e213_40, e213_44, e213_45, e213_48, e213_49, e213_51, e213_53, e213_54, e213_57, e213_58, e213_61, e213_63, e213_64, e213_65, e213_66, e213_68, e213_71, e213_72, e213_74, e213_76, e213_79, e213_81, e213_82, e213_85, e213_87, e213_88, e213_91, e213_93, e213_94, e213_95, e213_97, e213_100, e213_103, e213_104, e213_105, e213_107, e213_110, e213_113, e213_114, e213_117, e213_118, e213_120, e213_122, e213_125, e213_126, e213_129, e213_130, e213_132, e213_133, e213_136, e213_139, e213_142, e213_145, e213_148, m213, ↓reduceIte, qg_0, qg_1, qg_2, qg_3, qg_4, qg_5, qg_6, qg_7, qg_8, qg_9, qg_10, qg_11, qg_12, qg_13, not_true_eq_false, not_false_eq_true, Nat.reduceBEq, Bool.false_eq_true, ex1, ex3, ex4, exF, qfit_i, qfit_l, qfit_r, qfit_n, qfit_b0, qfit_b1, qcat_i, qcat_r, qcat_n, qcat_l, qroom_0, qroom_c, List.map_cons, List.map_nil, List.sum_cons, List.sum_nil, Nat.reduceAdd, Nat.reduceMul, Nat.reduceLT, Nat.reduceLeDiff, Nat.reduceEqDiff, Nat.reduceSub, decide_true, true_and, and_true, and_self, if_true, if_false, Option.toList_some, Option.toList_none, List.cons_append, List.nil_append, qsL, qlong, List.length_cons, List.length_nil, iN_L, iN_le, Nat.le_refl]
  have cA : Ch [60, 61, 69] [] h (sI h 69 (fun k => if k < m then iN (F k) else hi h 69 k)) := Ch.rowI s k69 (by decide)
  have I0 : ffI h (sI h 69 (fun k => if k < m then iN (F k) else hi h 69 k)) i D m F m M T F := by
    refine ⟨cA, fun K hK => ?_, fun k hk => ?_, fun _ _ => rfl, ⟨Nat.le_refl _, by omega⟩, fun k h1 h2 => by omega, fun K hK => ?_, ⟨m1, m2⟩, fun x _ => by rw [hi_sI, if_neg (by decide)], fun x _ => by rw [hi_sI, if_neg (by decide)]⟩
    · rw [hi_sI, if_neg (by decide), hi_sI, if_neg (by decide)]; exact v K hK
    · rw [hi_sI, if_pos rfl]
      show (if k < m then _ else _) = _ ∧ _
      rw [if_pos hk]; exact ⟨rfl, (hF k hk).1⟩
    · rw [m0 K hK]
      exact ⟨fun a b _ hb => absurd hb (Nat.not_lt_zero b), fun k hk => absurd hk (Nat.not_lt_zero k)⟩
  obtain ⟨⟨t, all⟩, L', h', ⟨M', T', U', x5, y6, y7, rfl, q6, q7, tle, I', dn'⟩, hdone, r1⟩ := loop_wf (d := d + 3) (rt := 4) (K := qk_213) (pc := 42) (fun x : Nat × Nat => 1000 - x.1) (P := ffP h i D m F) (D := fun x => x.2 ≤ x.1) (fun x L h1 hP hD' => by
    obtain ⟨M1, T1, U1, x5, y6, y7, rfl, q6, q7, tl1, I1, dn1⟩ := hP
    have v1 := I1.2.1
    have b0 := (v1 0 (by decide)).2.1
    have b1 := (v1 1 (by decide)).2.1
    have b2 := (v1 2 (by decide)).2.1
    have ba := I1.2.2.2.2.1
    obtain ⟨h2, all2, M2, T2, U2, z6, z7, r, p6, p7, le2, I2, dn2⟩ := ff_row (d := d) (x5 := x5) hi' hD hd hm hF g I1 (show x.1 < x.2 by omega) (by omega) q6 q7 dn1
    exact ⟨(x.1 + 1, all2), _, h2, ⟨M2, T2, U2, some (.int (iN m)), z6, z7, rfl, p6, p7, by show x.1 + 1 ≤ all2; omega, I2, dn2⟩, by show 1000 - (x.1 + 1) < 1000 - x.1; omega, r⟩) 1000 (0, m) _ _ (by show 1000 - 0 ≤ 1000; omega) ⟨M, T, F, none, none, none, rfl, rfl, rfl, Nat.zero_le _, I0, fun t' j h1 _ => absurd h1 (Nat.not_lt_zero t')⟩
  obtain ⟨ch, v', u, uF, ⟨a1, a2⟩, uM, tK, ⟨n1, n2⟩, oo⟩ := I'
  have hdone' : all ≤ t := hdone
  refine ⟨h', M', T', fun R => ?_, ch, oo, fun K hK1 hK2 => by
    have e1 := (v' K hK2).1
    have e2 := (v K hK2).1
    have e3 := (v' K hK2).2.1
    have e4 := (v K hK2).2.1
    rw [oo.1 _ (by omega), e2, iN_eq (by omega) (by omega)] at e1
    exact e1.symm, v', ⟨n1, n2⟩, fun K hK => ⟨(tK K hK).1, fun y => ⟨?_, ?_⟩⟩⟩
  · rw [r0 R, r1 R, e213_42]
    have b0 := (v' 0 (by decide)).2.1
    have b1 := (v' 1 (by decide)).2.1
    have b2 := (v' 2 (by decide)).2.1
    have tle' : t ≤ all := tle
    simp (disch := first | assumption | omega) only [e213_0, e213_1, e213_2, e213_3, e213_4, e213_7, e213_8, e213_9, e213_11, e213_13, e213_14, e213_17, e213_18, e213_21, e213_22, e213_23, e213_24, e213_26, e213_29, e213_30, e213_33, e213_36, e213_39, e213_40, e213_44, e213_45, e213_48, e213_49, e213_51, e213_53, e213_54, e213_57, e213_58, e213_61, e213_63, e213_64, e213_65, e213_66, e213_68, e213_71, e213_72, e213_74, e213_76, e213_79, e213_81, e213_82, e213_85, e213_87, e213_88, e213_91, e213_93, e213_94, e213_95, e213_97, e213_100, e213_103, e213_104, e213_105, e213_107, e213_110, e213_113, e213_114, e213_117, e213_118, e213_120, e213_122, e213_125, e213_126, e213_129, e213_130, e213_132, e213_133, e213_136, e213_139, e213_142, e213_145, e213_148, m213, ↓reduceIte, qg_0, qg_1, qg_2, qg_3, qg_4, qg_5, qg_6, qg_7, qg_8, qg_9, qg_10, qg_11, qg_12, qg_13, not_true_eq_false, not_false_eq_true, Nat.reduceBEq, Bool.false_eq_true, ex1, ex3, ex4, exF, qfit_i, qfit_l, qfit_r, qfit_n, qfit_b0, qfit_b1, qcat_i, qcat_r, qcat_n, qcat_l, qroom_0, qroom_c, List.map_cons, List.map_nil, List.sum_cons, List.sum_nil, Nat.reduceAdd, Nat.reduceMul, Nat.reduceLT, Nat.reduceLeDiff, Nat.reduceEqDiff, Nat.reduceSub, decide_true, true_and, and_true, and_self, if_true, if_false, Option.toList_some, Option.toList_none, List.cons_append, List.nil_append, qsL, qlong, List.length_cons, List.length_nil, iN_L, iN_le, hdone']
  · rintro ⟨k, hk, rfl⟩
    have := (tK K hK).2 k hk
    exact ⟨this.1, this.2.1, this.2.2.1⟩
  · rintro ⟨h1, h2, h3⟩
    have key : (∃ j, j < m ∧ y = F j) ∨ (Meet F m y ∧ kindOf y < D - 1 ∧ ffIn M' T' y) := by
      refine meet_all (F := F) (m := m) (U := fun y => (∃ j, j < m ∧ y = F j) ∨ (Meet F m y ∧ kindOf y < D - 1 ∧ ffIn M' T' y)) (fun j hj => (hF j hj).1) (fun j hj => Or.inl ⟨j, hj, rfl⟩) (fun z j hz hj hne => ?_) h1
      have hU : (∃ t', t' < all ∧ U' t' = z) ∧ Meet F m z := by
        rcases hz with ⟨q, hq, e⟩ | ⟨mz, hkz, k, hk, e⟩
        · exact ⟨⟨q, by omega, by rw [uF q hq, e]⟩, by rw [e]; exact meet_facet hq (hF q hq).2 (hF q hq).1⟩
        · obtain ⟨-, -, -, k', w1, w2⟩ := (tK (kindOf z) hkz).2 k hk
          exact ⟨⟨k', w1, by rw [w2, e]⟩, mz⟩
      obtain ⟨⟨t', ht', e⟩, mz⟩ := hU
      rcases dn' t' j (by show t' < t; omega) hj with q | q | q | q
      · rw [e] at q; exact absurd q hne
      · rw [e] at q; rw [q]; exact hz
      · rw [e] at q; exact Or.inl ⟨j, hj, q⟩
      · rw [e] at q
        by_cases hfc : ∃ j', j' < m ∧ z &&& F j = F j'
        · exact Or.inl hfc
        · have mm := meet_and mz hj hne
          exact Or.inr ⟨mm, g.2.1 _ mm (fun j' hj' e' => hfc ⟨j', hj', e'⟩), q⟩
    rcases key with ⟨j, hj, e⟩ | ⟨-, -, k, hk, e⟩
    · exact absurd e (h2 j hj)
    · rw [h3] at hk e
      exact ⟨k, hk, e⟩
end AF
